theorem oF_La_9 : okF "MatchPipe$Layout" 9 7 0 1 := ⟨_, rfl, by decide, gT_in 338 (by decide +kernel) rfl, rfl⟩
theorem oF_La_15 : okF "MatchPipe$Layout" 15 7 1 1 := ⟨_, rfl, by decide, gT_in 340 (by decide +kernel) rfl, rfl⟩
theorem oF_La_18 : okF "MatchPipe$Layout" 18 7 2 1 := ⟨_, rfl, by decide, gT_in 342 (by decide +kernel) rfl, rfl⟩
theorem oF_La_21 : okF "MatchPipe$Layout" 21 7 6 0 := ⟨_, rfl, by decide, gT_in 351 (by decide +kernel) rfl, rfl⟩
theorem oF_La_25 : okF "MatchPipe$Layout" 25 7 3 2 := ⟨_, rfl, by decide, gT_in 344 (by decide +kernel) rfl, rfl⟩
theorem oF_La_29 : okF "MatchPipe$Layout" 29 7 5 0 := ⟨_, rfl, by decide, gT_in 349 (by decide +kernel) rfl, rfl⟩
theorem oF_La_58 : okF "MatchPipe$Layout" 58 1 6 0 := ⟨_, rfl, by decide, gT_in 303 (by decide +kernel) rfl, rfl⟩
theorem oF_La_63 : okF "MatchPipe$Layout" 63 1 1 1 := ⟨_, rfl, by decide, gT_in 287 (by decide +kernel) rfl, rfl⟩
theorem oF_La_84 : okF "MatchPipe$Layout" 84 2 4 0 := ⟨_, rfl, by decide, gT_in 118 (by decide +kernel) rfl, rfl⟩
theorem oF_La_91 : okF "MatchPipe$Layout" 91 1 9 0 := ⟨_, rfl, by decide, gT_in 309 (by decide +kernel) rfl, rfl⟩
theorem oF_La_94 : okF "MatchPipe$Layout" 94 1 4 1 := ⟨_, rfl, by decide, gT_in 295 (by decide +kernel) rfl, rfl⟩
theorem oF_La_104 : okF "MatchPipe$Layout" 104 6 4 0 := ⟨_, rfl, by decide, gT_in 268 (by decide +kernel) rfl, rfl⟩
theorem oF_La_107 : okF "MatchPipe$Layout" 107 6 0 0 := ⟨_, rfl, by decide, gT_in 260 (by decide +kernel) rfl, rfl⟩
theorem oF_La_126 : okF "MatchPipe$Layout" 126 7 4 0 := ⟨_, rfl, by decide, gT_in 348 (by decide +kernel) rfl, rfl⟩
/-! MatchPipe$Layout.forget()V -/
def yLa_forget : MethodName := ⟨"MatchPipe$Layout", "forget", "()V"⟩
def tLa_forget : tM := (prog_6_method_2_code, "MatchPipe$Layout", 1, "forget", none, [])
def rLa_forget : Room := { frames := 0, cells := 0, slots := 0, locals := 0 }
theorem kLa_forget : cOf yLa_forget tLa_forget ∈ gT := gT_in 538 (by decide +kernel) rfl
theorem iLa_forget : Cond.initialized yLa_forget.cls ∈ gT := gT_in 63 (by decide +kernel) rfl
theorem mLa_forget : okM yLa_forget 0 := ⟨by decide, by decide, by unfold nPar; decide +kernel⟩
theorem nLa_forget : Cond.instanceMethod yLa_forget ∈ gT := gT_in 536 (by decide +kernel) rfl
theorem lLa_forget : Cond.selects "MatchPipe$Layout" yLa_forget yLa_forget ∈ gT := gT_in 537 (by decide +kernel) rfl
def fLa_forget (x0 : Nat) (S : Sx) : Option (Sx) :=
    (pZ S 7 3 x0 0).bind fun S1 =>
    (pI S1 7 5 x0 0).bind fun S3 =>
    (pI S3 7 6 x0 (-1)).bind fun S5 =>
    some S5
set_option maxRecDepth 100000 in
set_option maxHeartbeats 4000000 in
theorem wLa_forget {Γ : vG} (hR : gR Γ = rLa_forget) (hl : (gl Γ).flags = pinnedFlags ++ [noTraceFlag]) (x0 : Nat) (S : Sx) {X : Sx} (h : fLa_forget x0 S = some X) : vV Γ tLa_forget (mQ Γ 0 0 0 none X) S 0 0 0 [(0, .ref x0)] [] := by
  unfold fLa_forget at h
  refine v_aload_n (pc := 0) (show decode (tC tLa_forget) 0 = .ok (.aload_n 0, 1) by decide +kernel) 0 rfl rfl ?_
  refine v_iconst (pc := 1) (v := 0) (show decode (tC tLa_forget) 1 = .ok (.iconst 0, 1) by decide +kernel) (by decide) ?_
  obtain ⟨S1, e2, h⟩ := ob h
  refine v_putZ (pc := 2) oF_La_25 (fin_ok (kd := 7) (k := 3) (by decide +kernel)) e2 (show decode (tC tLa_forget) 2 = .ok (.putfield 25, 3) by decide +kernel) ?_
  refine v_aload_n (pc := 5) (show decode (tC tLa_forget) 5 = .ok (.aload_n 0, 1) by decide +kernel) 0 rfl rfl ?_
  refine v_iconst (pc := 6) (v := 0) (show decode (tC tLa_forget) 6 = .ok (.iconst 0, 1) by decide +kernel) (by decide) ?_
  obtain ⟨S3, e4, h⟩ := ob h
  refine v_putI (pc := 7) oF_La_29 (fin_ok (kd := 7) (k := 5) (by decide +kernel)) e4 (show decode (tC tLa_forget) 7 = .ok (.putfield 29, 3) by decide +kernel) ?_
  refine v_aload_n (pc := 10) (show decode (tC tLa_forget) 10 = .ok (.aload_n 0, 1) by decide +kernel) 0 rfl rfl ?_
  refine v_iconst (pc := 11) (v := (-1)) (show decode (tC tLa_forget) 11 = .ok (.iconst (-1), 1) by decide +kernel) (by decide) ?_
  obtain ⟨S5, e6, h⟩ := ob h
  refine v_putI (pc := 12) oF_La_21 (fin_ok (kd := 7) (k := 6) (by decide +kernel)) e6 (show decode (tC tLa_forget) 12 = .ok (.putfield 21, 3) by decide +kernel) ?_
  obtain rfl := Option.some.inj h
  refine v_wide (ce2 := 0) (sl2 := 0) (by decide) (by decide) ?_
  exact v_vret (pc := 15) rfl (show decode (tC tLa_forget) 15 = .ok (.return_, 1) by decide +kernel)
theorem cLa_forget {l : Launch} (hl : l.flags = pinnedFlags ++ [noTraceFlag]) {D : va_G} {dA : Nat → ClassId} {B : Nat} {x0 : Nat} {S : Sx} {X : Sx} (h : fLa_forget x0 S = some X) : Mx l yLa_forget tLa_forget rLa_forget 0 0 D dA B S [.ref x0] 0 none X :=
  mx_of hl (by decide) rfl rfl (Nat.le_of_ble_eq_true rfl) (fun Γ e1 e2 e3 e4 e5 => by subst e1; subst e3; subst e4; subst e5; exact wLa_forget e2 hl x0 S h)
/-! MatchPipe$Layout.emptyWays(LMatchPipe$State;)I -/
def yLa_emptyWays : MethodName := ⟨"MatchPipe$Layout", "emptyWays", "(LMatchPipe$State;)I"⟩
def tLa_emptyWays : tM := (prog_6_method_8_code, "MatchPipe$Layout", 1, "emptyWays", some .int, [])
def rLa_emptyWays : Room := { frames := 1, cells := 0, slots := 0, locals := 22 }
theorem kLa_emptyWays : cOf yLa_emptyWays tLa_emptyWays ∈ gT := gT_in 914 (by decide +kernel) rfl
theorem iLa_emptyWays : Cond.initialized yLa_emptyWays.cls ∈ gT := gT_in 63 (by decide +kernel) rfl
theorem mLa_emptyWays : okM yLa_emptyWays 1 := ⟨by decide, by decide, by unfold nPar; decide +kernel⟩
theorem sLa_emptyWays : Cond.static yLa_emptyWays ∈ gT := gT_in 913 (by decide +kernel) rfl
def fLa_emptyWays (x0 : Nat) (S : Sx) : Option (Int32 × Sx) :=
    (gI S 2 4 x0).bind fun v1 =>
    if v1 = 0 then
    ((ckd S x0 2).bind fun _ =>
    bd2 (fSt_waysOn x0 S) fun r5 S6 =>
    some (r5, S6))
    else
    (some (0, S))
set_option maxRecDepth 100000 in
set_option maxHeartbeats 4000000 in
theorem wLa_emptyWays {Γ : vG} (hR : gR Γ = rLa_emptyWays) (hl : (gl Γ).flags = pinnedFlags ++ [noTraceFlag]) (x0 : Nat) (S : Sx) {X : Int32 × Sx} (h : fLa_emptyWays x0 S = some X) : vV Γ tLa_emptyWays (mQ Γ 0 0 0 (some (.int X.1)) X.2) S 0 0 0 [(0, .ref x0)] [] := by
  unfold fLa_emptyWays at h
  refine v_aload_n (pc := 0) (show decode (tC tLa_emptyWays) 0 = .ok (.aload_n 0, 1) by decide +kernel) 0 rfl rfl ?_
  obtain ⟨v1, e2, h⟩ := ob h
  refine v_getI (pc := 1) oF_La_84 (by decide) e2 (show decode (tC tLa_emptyWays) 1 = .ok (.getfield 84, 3) by decide +kernel) ?_
  refine v_if_ne (pc := 4) 14 (show decode (tC tLa_emptyWays) 4 = .ok (.ifCond .ne 10, 3) by decide +kernel) (by decide) (fun c => ?_) (fun c => ?_)
  · replace h := ite_f c h
    refine v_iconst (pc := 14) (v := 0) (show decode (tC tLa_emptyWays) 14 = .ok (.iconst 0, 1) by decide +kernel) (by decide) ?_
    obtain rfl := Option.some.inj h
    refine v_wide (ce2 := 0) (sl2 := 0) (by decide) (by decide) ?_
    exact v_iret (pc := 15) rfl (show decode (tC tLa_emptyWays) 15 = .ok (.ireturn, 1) by decide +kernel)
  · replace h := ite_t c h
    refine v_aload_n (pc := 7) (show decode (tC tLa_emptyWays) 7 = .ok (.aload_n 0, 1) by decide +kernel) 0 rfl rfl ?_
    obtain ⟨_, e4, h⟩ := ob h
    obtain ⟨r5, S6, e3, h⟩ := ob2 h
    refine v_call (pc := 8) (v := (some (.int r5))) (y := ySt_waysOn) (θ' := tSt_waysOn) (rm := rSt_waysOn) (av := [.ref x0]) (st := []) (cSt_waysOn (l := gl Γ) hl e3) kSt_waysOn iSt_waysOn (iv_virt (y := ySt_waysOn) (θ' := tSt_waysOn) (kd := 2) (As := []) rfl (ckd_of e4) kSt_waysOn (gT_in 915 (by decide +kernel) rfl) nSt_waysOn lSt_waysOn mSt_waysOn rfl (show decode (tC tLa_emptyWays) 8 = .ok (.invokevirtual 87, 3) by decide +kernel)) ⟨by rw [hR]; decide, by rw [hR]; decide, by rw [hR]; decide, by rw [hR]; decide⟩ (Nat.le_of_ble_eq_true rfl) ?_
    refine v_goto (pc := 11) 15 (show decode (tC tLa_emptyWays) 11 = .ok (.goto 4, 3) by decide +kernel) (by decide) ?_
    obtain rfl := Option.some.inj h
    refine v_wide (ce2 := 0) (sl2 := 0) (by decide) (by decide) ?_
    exact v_iret (pc := 15) rfl (show decode (tC tLa_emptyWays) 15 = .ok (.ireturn, 1) by decide +kernel)
theorem cLa_emptyWays {l : Launch} (hl : l.flags = pinnedFlags ++ [noTraceFlag]) {D : va_G} {dA : Nat → ClassId} {B : Nat} {x0 : Nat} {S : Sx} {X : Int32 × Sx} (h : fLa_emptyWays x0 S = some X) : Mx l yLa_emptyWays tLa_emptyWays rLa_emptyWays 0 0 D dA B S [.ref x0] 0 (some (.int X.1)) X.2 :=
  mx_of hl (by decide) rfl rfl (Nat.le_of_ble_eq_true rfl) (fun Γ e1 e2 e3 e4 e5 => by subst e1; subst e3; subst e4; subst e5; exact wLa_emptyWays e2 hl x0 S h)
/-! MatchPipe$Layout.emptyWaysFrom(ILMatchPipe$Program;)I -/
def yLa_emptyWaysFrom : MethodName := ⟨"MatchPipe$Layout", "emptyWaysFrom", "(ILMatchPipe$Program;)I"⟩
def tLa_emptyWaysFrom : tM := (prog_6_method_7_code, "MatchPipe$Layout", 5, "emptyWaysFrom", some .int, [])
def rLa_emptyWaysFrom : Room := { frames := 2, cells := 0, slots := 0, locals := 42 }
theorem kLa_emptyWaysFrom : cOf yLa_emptyWaysFrom tLa_emptyWaysFrom ∈ gT := gT_in 911 (by decide +kernel) rfl
theorem iLa_emptyWaysFrom : Cond.initialized yLa_emptyWaysFrom.cls ∈ gT := gT_in 63 (by decide +kernel) rfl
theorem mLa_emptyWaysFrom : okM yLa_emptyWaysFrom 2 := ⟨by decide, by decide, by unfold nPar; decide +kernel⟩
theorem sLa_emptyWaysFrom : Cond.static yLa_emptyWaysFrom ∈ gT := gT_in 910 (by decide +kernel) rfl
def fLa_emptyWaysFrom_23 (k12 : Nat → Int32 → Int32 → Sx → Option (Int32 × Sx)) : Nat → Nat → Int32 → Int32 → Int32 → Sx → Option (Int32 × Sx)
  | 0, _, _, _, _, _ => none
  | n + 1, x1, x2, x3, x4, S =>
    (gI S 1 6 x1).bind fun v1 =>
    if v1 ≤ x4 then
    (k12 x1 x2 (x3 + 1) S)
    else
    (bd2 (fMp_hasBit x2 x4 S) fun r4 S5 =>
    if r4 = 0 then
    (fLa_emptyWaysFrom_23 k12 n x1 (x2 ||| 0) x3 (x4 + 1) S5)
    else
    ((gX S5 1 1 x1).bind fun v6 =>
    (aX S5 2 v6 x4).bind fun v8 =>
    bd2 (fLa_emptyWays v8 S5) fun r11 S12 =>
    fLa_emptyWaysFrom_23 k12 n x1 (x2 ||| r11) x3 (x4 + 1) S12))
set_option maxRecDepth 100000 in
set_option maxHeartbeats 4000000 in
theorem wLa_emptyWaysFrom_23 {Γ : vG} (hR : gR Γ = rLa_emptyWaysFrom) (hl : (gl Γ).flags = pinnedFlags ++ [noTraceFlag]) {X : Int32 × Sx} {k12 : Nat → Int32 → Int32 → Sx → Option (Int32 × Sx)} (hk12 : ∀ (x1 : Nat) (x2 : Int32) (x3 : Int32) (S : Sx), k12 x1 x2 x3 S = some X → vV Γ tLa_emptyWaysFrom (mQ Γ 0 0 0 (some (.int X.1)) X.2) S 0 0 12 [(1, .ref x1), (2, .int x2), (3, .int x3)] []) : ∀ (n : Nat) (x1 : Nat) (x2 : Int32) (x3 : Int32) (x4 : Int32) (S : Sx), fLa_emptyWaysFrom_23 k12 n x1 x2 x3 x4 S = some X → vV Γ tLa_emptyWaysFrom (mQ Γ 0 0 0 (some (.int X.1)) X.2) S 0 0 23 [(1, .ref x1), (2, .int x2), (3, .int x3), (4, .int x4)] [] := by
  intro n
  induction n with
  | zero => intro x1 x2 x3 x4 S h; rw [fLa_emptyWaysFrom_23] at h; cases h
  | succ n ih =>
    intro x1 x2 x3 x4 S h
    rw [fLa_emptyWaysFrom_23] at h
    refine v_iload (pc := 23) (show decode (tC tLa_emptyWaysFrom) 23 = .ok (.iload 4, 2) by decide +kernel) 3 rfl ?_
    refine v_aload_n (pc := 25) (show decode (tC tLa_emptyWaysFrom) 25 = .ok (.aload_n 1, 1) by decide +kernel) 0 rfl rfl ?_
    obtain ⟨v1, e2, h⟩ := ob h
    refine v_getI (pc := 26) oF_La_58 (by decide) e2 (show decode (tC tLa_emptyWaysFrom) 26 = .ok (.getfield 58, 3) by decide +kernel) ?_
    refine v_icmp_ge (pc := 29) 64 (show decode (tC tLa_emptyWaysFrom) 29 = .ok (.if_icmp .ge 35, 3) by decide +kernel) (by decide) (fun c => ?_) (fun c => ?_)
    · replace h := ite_t c h
      refine v_iinc (pc := 64) (j := 2) [(3, .int (x3 + 1)), (1, .ref x1), (2, .int x2), (4, .int x4)] (show decode (tC tLa_emptyWaysFrom) 64 = .ok (.iinc 3 1, 3) by decide +kernel) rfl rfl (by decide) rfl ?_
      refine v_goto (pc := 67) 12 (show decode (tC tLa_emptyWaysFrom) 67 = .ok (.goto (-55), 3) by decide +kernel) (by decide) ?_
      refine v_sub [(1, .ref x1), (2, .int x2), (3, .int (x3 + 1))] [1, 2, 0] rfl ?_
      exact hk12 x1 x2 (x3 + 1) S h
    · replace h := ite_f c h
      refine v_iload_n (pc := 32) (show decode (tC tLa_emptyWaysFrom) 32 = .ok (.iload_n 2, 1) by decide +kernel) 1 rfl rfl ?_
      refine v_iload_n (pc := 33) (show decode (tC tLa_emptyWaysFrom) 33 = .ok (.iload_n 2, 1) by decide +kernel) 1 rfl rfl ?_
      refine v_iload (pc := 34) (show decode (tC tLa_emptyWaysFrom) 34 = .ok (.iload 4, 2) by decide +kernel) 3 rfl ?_
      obtain ⟨r4, S5, e3, h⟩ := ob2 h
      refine v_call (pc := 36) (v := (some (.int r4))) (y := yMp_hasBit) (θ' := tMp_hasBit) (rm := rMp_hasBit) (av := [.int x2, .int x4]) (st := [.int x2]) (cMp_hasBit (l := gl Γ) hl e3) kMp_hasBit iMp_hasBit (iv_staticN (y := yMp_hasBit) (θ' := tMp_hasBit) (n := 2) (As := [.int x2, .int x4]) kMp_hasBit (List.mem_of_getElem? (l := nN) (i := 11) rfl) sMp_hasBit iMp_hasBit mMp_hasBit rfl (show decode (tC tLa_emptyWaysFrom) 36 = .ok (.invokestatic 76, 3) by decide +kernel)) ⟨by rw [hR]; decide, by rw [hR]; decide, by rw [hR]; decide, by rw [hR]; decide⟩ (Nat.le_of_ble_eq_true rfl) ?_
      refine v_if_eq (pc := 39) 55 (show decode (tC tLa_emptyWaysFrom) 39 = .ok (.ifCond .eq 16, 3) by decide +kernel) (by decide) (fun c => ?_) (fun c => ?_)
      · replace h := ite_t c h
        refine v_iconst (pc := 55) (v := 0) (show decode (tC tLa_emptyWaysFrom) 55 = .ok (.iconst 0, 1) by decide +kernel) (by decide) ?_
        refine v_ior (pc := 56) (show decode (tC tLa_emptyWaysFrom) 56 = .ok (.ior, 1) by decide +kernel) ?_
        refine v_istore_n (pc := 57) [(2, .int (x2 ||| 0)), (1, .ref x1), (3, .int x3), (4, .int x4)] (show decode (tC tLa_emptyWaysFrom) 57 = .ok (.istore_n 2, 1) by decide +kernel) rfl (by decide) rfl ?_
        refine v_iinc (pc := 58) (j := 3) [(4, .int (x4 + 1)), (2, .int (x2 ||| 0)), (1, .ref x1), (3, .int x3)] (show decode (tC tLa_emptyWaysFrom) 58 = .ok (.iinc 4 1, 3) by decide +kernel) rfl rfl (by decide) rfl ?_
        refine v_goto (pc := 61) 23 (show decode (tC tLa_emptyWaysFrom) 61 = .ok (.goto (-38), 3) by decide +kernel) (by decide) ?_
        refine v_sub [(1, .ref x1), (2, .int (x2 ||| 0)), (3, .int x3), (4, .int (x4 + 1))] [2, 1, 3, 0] rfl ?_
        exact ih x1 (x2 ||| 0) x3 (x4 + 1) S5 h
      · replace h := ite_f c h
        refine v_aload_n (pc := 42) (show decode (tC tLa_emptyWaysFrom) 42 = .ok (.aload_n 1, 1) by decide +kernel) 0 rfl rfl ?_
        obtain ⟨v6, e7, h⟩ := ob h
        refine v_getX (pc := 43) oF_La_63 e7 (show decode (tC tLa_emptyWaysFrom) 43 = .ok (.getfield 63, 3) by decide +kernel) ?_
        refine v_iload (pc := 46) (show decode (tC tLa_emptyWaysFrom) 46 = .ok (.iload 4, 2) by decide +kernel) 3 rfl ?_
        obtain ⟨v8, e9, h⟩ := ob h
        refine v_aald (pc := 48) (kd := 2) rfl e9 (show decode (tC tLa_emptyWaysFrom) 48 = .ok (.aaload, 1) by decide +kernel) ?_
        obtain ⟨r11, S12, e10, h⟩ := ob2 h
        refine v_call (pc := 49) (v := (some (.int r11))) (y := yLa_emptyWays) (θ' := tLa_emptyWays) (rm := rLa_emptyWays) (av := [.ref v8]) (st := [.int x2]) (cLa_emptyWays (l := gl Γ) hl e10) kLa_emptyWays iLa_emptyWays (iv_static (y := yLa_emptyWays) (θ' := tLa_emptyWays) (n := 1) (As := [.ref v8]) kLa_emptyWays (gT_in 912 (by decide +kernel) rfl) sLa_emptyWays iLa_emptyWays mLa_emptyWays rfl (show decode (tC tLa_emptyWaysFrom) 49 = .ok (.invokestatic 80, 3) by decide +kernel)) ⟨by rw [hR]; decide, by rw [hR]; decide, by rw [hR]; decide, by rw [hR]; decide⟩ (Nat.le_of_ble_eq_true rfl) ?_
        refine v_goto (pc := 52) 56 (show decode (tC tLa_emptyWaysFrom) 52 = .ok (.goto 4, 3) by decide +kernel) (by decide) ?_
        refine v_ior (pc := 56) (show decode (tC tLa_emptyWaysFrom) 56 = .ok (.ior, 1) by decide +kernel) ?_
        refine v_istore_n (pc := 57) [(2, .int (x2 ||| r11)), (1, .ref x1), (3, .int x3), (4, .int x4)] (show decode (tC tLa_emptyWaysFrom) 57 = .ok (.istore_n 2, 1) by decide +kernel) rfl (by decide) rfl ?_
        refine v_iinc (pc := 58) (j := 3) [(4, .int (x4 + 1)), (2, .int (x2 ||| r11)), (1, .ref x1), (3, .int x3)] (show decode (tC tLa_emptyWaysFrom) 58 = .ok (.iinc 4 1, 3) by decide +kernel) rfl rfl (by decide) rfl ?_
        refine v_goto (pc := 61) 23 (show decode (tC tLa_emptyWaysFrom) 61 = .ok (.goto (-38), 3) by decide +kernel) (by decide) ?_
        refine v_sub [(1, .ref x1), (2, .int (x2 ||| r11)), (3, .int x3), (4, .int (x4 + 1))] [2, 1, 3, 0] rfl ?_
        exact ih x1 (x2 ||| r11) x3 (x4 + 1) S12 h
def fLa_emptyWaysFrom_12  : Nat → Nat → Int32 → Int32 → Sx → Option (Int32 × Sx)
  | 0, _, _, _, _ => none
  | n + 1, x1, x2, x3, S =>
    (gI S 1 6 x1).bind fun v1 =>
    if v1 ≤ x3 then
    (some (x2, S))
    else
    (fLa_emptyWaysFrom_23 (fun y1 y2 y3 T => fLa_emptyWaysFrom_12 n y1 y2 y3 T) fuel x1 x2 x3 0 S)
set_option maxRecDepth 100000 in
set_option maxHeartbeats 4000000 in
theorem wLa_emptyWaysFrom_12 {Γ : vG} (hR : gR Γ = rLa_emptyWaysFrom) (hl : (gl Γ).flags = pinnedFlags ++ [noTraceFlag]) {X : Int32 × Sx}  : ∀ (n : Nat) (x1 : Nat) (x2 : Int32) (x3 : Int32) (S : Sx), fLa_emptyWaysFrom_12  n x1 x2 x3 S = some X → vV Γ tLa_emptyWaysFrom (mQ Γ 0 0 0 (some (.int X.1)) X.2) S 0 0 12 [(1, .ref x1), (2, .int x2), (3, .int x3)] [] := by
  intro n
  induction n with
  | zero => intro x1 x2 x3 S h; rw [fLa_emptyWaysFrom_12] at h; cases h
  | succ n ih =>
    intro x1 x2 x3 S h
    rw [fLa_emptyWaysFrom_12] at h
    refine v_iload_n (pc := 12) (show decode (tC tLa_emptyWaysFrom) 12 = .ok (.iload_n 3, 1) by decide +kernel) 2 rfl rfl ?_
    refine v_aload_n (pc := 13) (show decode (tC tLa_emptyWaysFrom) 13 = .ok (.aload_n 1, 1) by decide +kernel) 0 rfl rfl ?_
    obtain ⟨v1, e2, h⟩ := ob h
    refine v_getI (pc := 14) oF_La_58 (by decide) e2 (show decode (tC tLa_emptyWaysFrom) 14 = .ok (.getfield 58, 3) by decide +kernel) ?_
    refine v_icmp_ge (pc := 17) 70 (show decode (tC tLa_emptyWaysFrom) 17 = .ok (.if_icmp .ge 53, 3) by decide +kernel) (by decide) (fun c => ?_) (fun c => ?_)
    · replace h := ite_t c h
      refine v_iload_n (pc := 70) (show decode (tC tLa_emptyWaysFrom) 70 = .ok (.iload_n 2, 1) by decide +kernel) 1 rfl rfl ?_
      obtain rfl := Option.some.inj h
      refine v_wide (ce2 := 0) (sl2 := 0) (by decide) (by decide) ?_
      exact v_iret (pc := 71) rfl (show decode (tC tLa_emptyWaysFrom) 71 = .ok (.ireturn, 1) by decide +kernel)
    · replace h := ite_f c h
      refine v_iconst (pc := 20) (v := 0) (show decode (tC tLa_emptyWaysFrom) 20 = .ok (.iconst 0, 1) by decide +kernel) (by decide) ?_
      refine v_istore (pc := 21) [(4, .int 0), (1, .ref x1), (2, .int x2), (3, .int x3)] (show decode (tC tLa_emptyWaysFrom) 21 = .ok (.istore 4, 2) by decide +kernel) (by decide) rfl ?_
      refine v_sub [(1, .ref x1), (2, .int x2), (3, .int x3), (4, .int 0)] [1, 2, 3, 0] rfl ?_
      exact wLa_emptyWaysFrom_23 hR hl (fun y1 y2 y3 T h => ih y1 y2 y3 T h) fuel x1 x2 x3 0 S h
def fLa_emptyWaysFrom (x0 : Int32) (x1 : Nat) (S : Sx) : Option (Int32 × Sx) :=
    (gX S 1 1 x1).bind fun v1 =>
    (aX S 2 v1 x0).bind fun v3 =>
    bd2 (fLa_emptyWays v3 S) fun r6 S7 =>
    fLa_emptyWaysFrom_12  fuel x1 r6 0 S7
set_option maxRecDepth 100000 in
set_option maxHeartbeats 4000000 in
theorem wLa_emptyWaysFrom {Γ : vG} (hR : gR Γ = rLa_emptyWaysFrom) (hl : (gl Γ).flags = pinnedFlags ++ [noTraceFlag]) (x0 : Int32) (x1 : Nat) (S : Sx) {X : Int32 × Sx} (h : fLa_emptyWaysFrom x0 x1 S = some X) : vV Γ tLa_emptyWaysFrom (mQ Γ 0 0 0 (some (.int X.1)) X.2) S 0 0 0 [(0, .int x0), (1, .ref x1)] [] := by
  unfold fLa_emptyWaysFrom at h
  refine v_aload_n (pc := 0) (show decode (tC tLa_emptyWaysFrom) 0 = .ok (.aload_n 1, 1) by decide +kernel) 1 rfl rfl ?_
  obtain ⟨v1, e2, h⟩ := ob h
  refine v_getX (pc := 1) oF_La_63 e2 (show decode (tC tLa_emptyWaysFrom) 1 = .ok (.getfield 63, 3) by decide +kernel) ?_
  refine v_iload_n (pc := 4) (show decode (tC tLa_emptyWaysFrom) 4 = .ok (.iload_n 0, 1) by decide +kernel) 0 rfl rfl ?_
  obtain ⟨v3, e4, h⟩ := ob h
  refine v_aald (pc := 5) (kd := 2) rfl e4 (show decode (tC tLa_emptyWaysFrom) 5 = .ok (.aaload, 1) by decide +kernel) ?_
  obtain ⟨r6, S7, e5, h⟩ := ob2 h
  refine v_call (pc := 6) (v := (some (.int r6))) (y := yLa_emptyWays) (θ' := tLa_emptyWays) (rm := rLa_emptyWays) (av := [.ref v3]) (st := []) (cLa_emptyWays (l := gl Γ) hl e5) kLa_emptyWays iLa_emptyWays (iv_static (y := yLa_emptyWays) (θ' := tLa_emptyWays) (n := 1) (As := [.ref v3]) kLa_emptyWays (gT_in 912 (by decide +kernel) rfl) sLa_emptyWays iLa_emptyWays mLa_emptyWays rfl (show decode (tC tLa_emptyWaysFrom) 6 = .ok (.invokestatic 80, 3) by decide +kernel)) ⟨by rw [hR]; decide, by rw [hR]; decide, by rw [hR]; decide, by rw [hR]; decide⟩ (Nat.le_of_ble_eq_true rfl) ?_
  refine v_istore_n (pc := 9) [(2, .int r6), (0, .int x0), (1, .ref x1)] (show decode (tC tLa_emptyWaysFrom) 9 = .ok (.istore_n 2, 1) by decide +kernel) rfl (by decide) rfl ?_
  refine v_iconst (pc := 10) (v := 0) (show decode (tC tLa_emptyWaysFrom) 10 = .ok (.iconst 0, 1) by decide +kernel) (by decide) ?_
  refine v_istore_n (pc := 11) [(3, .int 0), (2, .int r6), (0, .int x0), (1, .ref x1)] (show decode (tC tLa_emptyWaysFrom) 11 = .ok (.istore_n 3, 1) by decide +kernel) rfl (by decide) rfl ?_
  refine v_sub [(1, .ref x1), (2, .int r6), (3, .int 0)] [3, 1, 0] rfl ?_
  exact wLa_emptyWaysFrom_12 hR hl  fuel x1 r6 0 S7 h
theorem cLa_emptyWaysFrom {l : Launch} (hl : l.flags = pinnedFlags ++ [noTraceFlag]) {D : va_G} {dA : Nat → ClassId} {B : Nat} {x0 : Int32} {x1 : Nat} {S : Sx} {X : Int32 × Sx} (h : fLa_emptyWaysFrom x0 x1 S = some X) : Mx l yLa_emptyWaysFrom tLa_emptyWaysFrom rLa_emptyWaysFrom 0 0 D dA B S [.int x0, .ref x1] 0 (some (.int X.1)) X.2 :=
  mx_of hl (by decide) rfl rfl (Nat.le_of_ble_eq_true rfl) (fun Γ e1 e2 e3 e4 e5 => by subst e1; subst e3; subst e4; subst e5; exact wLa_emptyWaysFrom e2 hl x0 x1 S h)
/-! MatchPipe$Layout.emptyRound(LMatchPipe$Program;)I -/
def yLa_emptyRound : MethodName := ⟨"MatchPipe$Layout", "emptyRound", "(LMatchPipe$Program;)I"⟩
def tLa_emptyRound : tM := (prog_6_method_6_code, "MatchPipe$Layout", 2, "emptyRound", some .int, [])
def rLa_emptyRound : Room := { frames := 3, cells := 0, slots := 0, locals := 66 }
theorem kLa_emptyRound : cOf yLa_emptyRound tLa_emptyRound ∈ gT := gT_in 908 (by decide +kernel) rfl
theorem iLa_emptyRound : Cond.initialized yLa_emptyRound.cls ∈ gT := gT_in 63 (by decide +kernel) rfl
theorem mLa_emptyRound : okM yLa_emptyRound 1 := ⟨by decide, by decide, by unfold nPar; decide +kernel⟩
theorem sLa_emptyRound : Cond.static yLa_emptyRound ∈ gT := gT_in 907 (by decide +kernel) rfl
def fLa_emptyRound_2  : Nat → Nat → Int32 → Sx → Option (Int32 × Sx)
  | 0, _, _, _ => none
  | n + 1, x0, x1, S =>
    (gI S 1 6 x0).bind fun v1 =>
    if v1 ≤ x1 then
    (some ((-1), S))
    else
    (bd2 (fLa_emptyWaysFrom x1 x0 S) fun r4 S5 =>
    bd2 (fMp_hasBit r4 x1 S5) fun r7 S8 =>
    if r7 = 0 then
    (fLa_emptyRound_2 n x0 (x1 + 1) S8)
    else
    (some (x1, S8)))
set_option maxRecDepth 100000 in
set_option maxHeartbeats 4000000 in
theorem wLa_emptyRound_2 {Γ : vG} (hR : gR Γ = rLa_emptyRound) (hl : (gl Γ).flags = pinnedFlags ++ [noTraceFlag]) {X : Int32 × Sx}  : ∀ (n : Nat) (x0 : Nat) (x1 : Int32) (S : Sx), fLa_emptyRound_2  n x0 x1 S = some X → vV Γ tLa_emptyRound (mQ Γ 0 0 0 (some (.int X.1)) X.2) S 0 0 2 [(0, .ref x0), (1, .int x1)] [] := by
  intro n
  induction n with
  | zero => intro x0 x1 S h; rw [fLa_emptyRound_2] at h; cases h
  | succ n ih =>
    intro x0 x1 S h
    rw [fLa_emptyRound_2] at h
    refine v_iload_n (pc := 2) (show decode (tC tLa_emptyRound) 2 = .ok (.iload_n 1, 1) by decide +kernel) 1 rfl rfl ?_
    refine v_aload_n (pc := 3) (show decode (tC tLa_emptyRound) 3 = .ok (.aload_n 0, 1) by decide +kernel) 0 rfl rfl ?_
    obtain ⟨v1, e2, h⟩ := ob h
    refine v_getI (pc := 4) oF_La_58 (by decide) e2 (show decode (tC tLa_emptyRound) 4 = .ok (.getfield 58, 3) by decide +kernel) ?_
    refine v_icmp_ge (pc := 7) 30 (show decode (tC tLa_emptyRound) 7 = .ok (.if_icmp .ge 23, 3) by decide +kernel) (by decide) (fun c => ?_) (fun c => ?_)
    · replace h := ite_t c h
      refine v_iconst (pc := 30) (v := (-1)) (show decode (tC tLa_emptyRound) 30 = .ok (.iconst (-1), 1) by decide +kernel) (by decide) ?_
      obtain rfl := Option.some.inj h
      refine v_wide (ce2 := 0) (sl2 := 0) (by decide) (by decide) ?_
      exact v_iret (pc := 31) rfl (show decode (tC tLa_emptyRound) 31 = .ok (.ireturn, 1) by decide +kernel)
    · replace h := ite_f c h
      refine v_iload_n (pc := 10) (show decode (tC tLa_emptyRound) 10 = .ok (.iload_n 1, 1) by decide +kernel) 1 rfl rfl ?_
      refine v_aload_n (pc := 11) (show decode (tC tLa_emptyRound) 11 = .ok (.aload_n 0, 1) by decide +kernel) 0 rfl rfl ?_
      obtain ⟨r4, S5, e3, h⟩ := ob2 h
      refine v_call (pc := 12) (v := (some (.int r4))) (y := yLa_emptyWaysFrom) (θ' := tLa_emptyWaysFrom) (rm := rLa_emptyWaysFrom) (av := [.int x1, .ref x0]) (st := []) (cLa_emptyWaysFrom (l := gl Γ) hl e3) kLa_emptyWaysFrom iLa_emptyWaysFrom (iv_static (y := yLa_emptyWaysFrom) (θ' := tLa_emptyWaysFrom) (n := 2) (As := [.int x1, .ref x0]) kLa_emptyWaysFrom (gT_in 909 (by decide +kernel) rfl) sLa_emptyWaysFrom iLa_emptyWaysFrom mLa_emptyWaysFrom rfl (show decode (tC tLa_emptyRound) 12 = .ok (.invokestatic 73, 3) by decide +kernel)) ⟨by rw [hR]; decide, by rw [hR]; decide, by rw [hR]; decide, by rw [hR]; decide⟩ (Nat.le_of_ble_eq_true rfl) ?_
      refine v_iload_n (pc := 15) (show decode (tC tLa_emptyRound) 15 = .ok (.iload_n 1, 1) by decide +kernel) 1 rfl rfl ?_
      obtain ⟨r7, S8, e6, h⟩ := ob2 h
      refine v_call (pc := 16) (v := (some (.int r7))) (y := yMp_hasBit) (θ' := tMp_hasBit) (rm := rMp_hasBit) (av := [.int r4, .int x1]) (st := []) (cMp_hasBit (l := gl Γ) hl e6) kMp_hasBit iMp_hasBit (iv_staticN (y := yMp_hasBit) (θ' := tMp_hasBit) (n := 2) (As := [.int r4, .int x1]) kMp_hasBit (List.mem_of_getElem? (l := nN) (i := 11) rfl) sMp_hasBit iMp_hasBit mMp_hasBit rfl (show decode (tC tLa_emptyRound) 16 = .ok (.invokestatic 76, 3) by decide +kernel)) ⟨by rw [hR]; decide, by rw [hR]; decide, by rw [hR]; decide, by rw [hR]; decide⟩ (Nat.le_of_ble_eq_true rfl) ?_
      refine v_if_eq (pc := 19) 24 (show decode (tC tLa_emptyRound) 19 = .ok (.ifCond .eq 5, 3) by decide +kernel) (by decide) (fun c => ?_) (fun c => ?_)
      · replace h := ite_t c h
        refine v_iinc (pc := 24) (j := 1) [(1, .int (x1 + 1)), (0, .ref x0)] (show decode (tC tLa_emptyRound) 24 = .ok (.iinc 1 1, 3) by decide +kernel) rfl rfl (by decide) rfl ?_
        refine v_goto (pc := 27) 2 (show decode (tC tLa_emptyRound) 27 = .ok (.goto (-25), 3) by decide +kernel) (by decide) ?_
        refine v_sub [(0, .ref x0), (1, .int (x1 + 1))] [1, 0] rfl ?_
        exact ih x0 (x1 + 1) S8 h
      · replace h := ite_f c h
        refine v_iload_n (pc := 22) (show decode (tC tLa_emptyRound) 22 = .ok (.iload_n 1, 1) by decide +kernel) 1 rfl rfl ?_
        obtain rfl := Option.some.inj h
        refine v_wide (ce2 := 0) (sl2 := 0) (by decide) (by decide) ?_
        exact v_iret (pc := 23) rfl (show decode (tC tLa_emptyRound) 23 = .ok (.ireturn, 1) by decide +kernel)
def fLa_emptyRound (x0 : Nat) (S : Sx) : Option (Int32 × Sx) :=
    fLa_emptyRound_2  fuel x0 0 S
set_option maxRecDepth 100000 in
set_option maxHeartbeats 4000000 in
theorem wLa_emptyRound {Γ : vG} (hR : gR Γ = rLa_emptyRound) (hl : (gl Γ).flags = pinnedFlags ++ [noTraceFlag]) (x0 : Nat) (S : Sx) {X : Int32 × Sx} (h : fLa_emptyRound x0 S = some X) : vV Γ tLa_emptyRound (mQ Γ 0 0 0 (some (.int X.1)) X.2) S 0 0 0 [(0, .ref x0)] [] := by
  unfold fLa_emptyRound at h
  refine v_iconst (pc := 0) (v := 0) (show decode (tC tLa_emptyRound) 0 = .ok (.iconst 0, 1) by decide +kernel) (by decide) ?_
  refine v_istore_n (pc := 1) [(1, .int 0), (0, .ref x0)] (show decode (tC tLa_emptyRound) 1 = .ok (.istore_n 1, 1) by decide +kernel) rfl (by decide) rfl ?_
  refine v_sub [(0, .ref x0), (1, .int 0)] [1, 0] rfl ?_
  exact wLa_emptyRound_2 hR hl  fuel x0 0 S h
theorem cLa_emptyRound {l : Launch} (hl : l.flags = pinnedFlags ++ [noTraceFlag]) {D : va_G} {dA : Nat → ClassId} {B : Nat} {x0 : Nat} {S : Sx} {X : Int32 × Sx} (h : fLa_emptyRound x0 S = some X) : Mx l yLa_emptyRound tLa_emptyRound rLa_emptyRound 0 0 D dA B S [.ref x0] 0 (some (.int X.1)) X.2 :=
  mx_of hl (by decide) rfl rfl (Nat.le_of_ble_eq_true rfl) (fun Γ e1 e2 e3 e4 e5 => by subst e1; subst e3; subst e4; subst e5; exact wLa_emptyRound e2 hl x0 S h)
/-! MatchPipe$Layout.missingState(LMatchPipe$Program;)I -/
def yLa_missingState : MethodName := ⟨"MatchPipe$Layout", "missingState", "(LMatchPipe$Program;)I"⟩
def tLa_missingState : tM := (prog_6_method_5_code, "MatchPipe$Layout", 2, "missingState", some .int, [])
def rLa_missingState : Room := { frames := 1, cells := 0, slots := 0, locals := 22 }
theorem kLa_missingState : cOf yLa_missingState tLa_missingState ∈ gT := gT_in 901 (by decide +kernel) rfl
theorem iLa_missingState : Cond.initialized yLa_missingState.cls ∈ gT := gT_in 63 (by decide +kernel) rfl
theorem mLa_missingState : okM yLa_missingState 1 := ⟨by decide, by decide, by unfold nPar; decide +kernel⟩
theorem sLa_missingState : Cond.static yLa_missingState ∈ gT := gT_in 900 (by decide +kernel) rfl
def fLa_missingState_11  : Nat → Nat → Int32 → Sx → Option (Int32 × Sx)
  | 0, _, _, _ => none
  | n + 1, x0, x1, S =>
    (gI S 1 6 x0).bind fun v1 =>
    if v1 ≤ x1 then
    (some ((-1), S))
    else
    ((gX S 1 1 x0).bind fun v3 =>
    (aX S 2 v3 x1).bind fun v5 =>
    (gI S 1 6 x0).bind fun v7 =>
    (ckd S v5 2).bind fun _ =>
    bd2 (fSt_tellsOfBeyond v5 v7 S) fun r11 S12 =>
    if r11 = 0 then
    (fLa_missingState_11 n x0 (x1 + 1) S12)
    else
    (some (x1, S12)))
set_option maxRecDepth 100000 in
set_option maxHeartbeats 4000000 in
theorem wLa_missingState_11 {Γ : vG} (hR : gR Γ = rLa_missingState) (hl : (gl Γ).flags = pinnedFlags ++ [noTraceFlag]) {X : Int32 × Sx}  : ∀ (n : Nat) (x0 : Nat) (x1 : Int32) (S : Sx), fLa_missingState_11  n x0 x1 S = some X → vV Γ tLa_missingState (mQ Γ 0 0 0 (some (.int X.1)) X.2) S 0 0 11 [(0, .ref x0), (1, .int x1)] [] := by
  intro n
  induction n with
  | zero => intro x0 x1 S h; rw [fLa_missingState_11] at h; cases h
  | succ n ih =>
    intro x0 x1 S h
    rw [fLa_missingState_11] at h
    refine v_iload_n (pc := 11) (show decode (tC tLa_missingState) 11 = .ok (.iload_n 1, 1) by decide +kernel) 1 rfl rfl ?_
    refine v_aload_n (pc := 12) (show decode (tC tLa_missingState) 12 = .ok (.aload_n 0, 1) by decide +kernel) 0 rfl rfl ?_
    obtain ⟨v1, e2, h⟩ := ob h
    refine v_getI (pc := 13) oF_La_58 (by decide) e2 (show decode (tC tLa_missingState) 13 = .ok (.getfield 58, 3) by decide +kernel) ?_
    refine v_icmp_ge (pc := 16) 43 (show decode (tC tLa_missingState) 16 = .ok (.if_icmp .ge 27, 3) by decide +kernel) (by decide) (fun c => ?_) (fun c => ?_)
    · replace h := ite_t c h
      refine v_iconst (pc := 43) (v := (-1)) (show decode (tC tLa_missingState) 43 = .ok (.iconst (-1), 1) by decide +kernel) (by decide) ?_
      obtain rfl := Option.some.inj h
      refine v_wide (ce2 := 0) (sl2 := 0) (by decide) (by decide) ?_
      exact v_iret (pc := 44) rfl (show decode (tC tLa_missingState) 44 = .ok (.ireturn, 1) by decide +kernel)
    · replace h := ite_f c h
      refine v_aload_n (pc := 19) (show decode (tC tLa_missingState) 19 = .ok (.aload_n 0, 1) by decide +kernel) 0 rfl rfl ?_
      obtain ⟨v3, e4, h⟩ := ob h
      refine v_getX (pc := 20) oF_La_63 e4 (show decode (tC tLa_missingState) 20 = .ok (.getfield 63, 3) by decide +kernel) ?_
      refine v_iload_n (pc := 23) (show decode (tC tLa_missingState) 23 = .ok (.iload_n 1, 1) by decide +kernel) 1 rfl rfl ?_
      obtain ⟨v5, e6, h⟩ := ob h
      refine v_aald (pc := 24) (kd := 2) rfl e6 (show decode (tC tLa_missingState) 24 = .ok (.aaload, 1) by decide +kernel) ?_
      refine v_aload_n (pc := 25) (show decode (tC tLa_missingState) 25 = .ok (.aload_n 0, 1) by decide +kernel) 0 rfl rfl ?_
      obtain ⟨v7, e8, h⟩ := ob h
      refine v_getI (pc := 26) oF_La_58 (by decide) e8 (show decode (tC tLa_missingState) 26 = .ok (.getfield 58, 3) by decide +kernel) ?_
      obtain ⟨_, e10, h⟩ := ob h
      obtain ⟨r11, S12, e9, h⟩ := ob2 h
      refine v_call (pc := 29) (v := (some (.int r11))) (y := ySt_tellsOfBeyond) (θ' := tSt_tellsOfBeyond) (rm := rSt_tellsOfBeyond) (av := [.ref v5, .int v7]) (st := []) (cSt_tellsOfBeyond (l := gl Γ) hl e9) kSt_tellsOfBeyond iSt_tellsOfBeyond (iv_virt (y := ySt_tellsOfBeyond) (θ' := tSt_tellsOfBeyond) (kd := 2) (As := [.int v7]) rfl (ckd_of e10) kSt_tellsOfBeyond (gT_in 902 (by decide +kernel) rfl) nSt_tellsOfBeyond lSt_tellsOfBeyond mSt_tellsOfBeyond rfl (show decode (tC tLa_missingState) 29 = .ok (.invokevirtual 67, 3) by decide +kernel)) ⟨by rw [hR]; decide, by rw [hR]; decide, by rw [hR]; decide, by rw [hR]; decide⟩ (Nat.le_of_ble_eq_true rfl) ?_
      refine v_if_eq (pc := 32) 37 (show decode (tC tLa_missingState) 32 = .ok (.ifCond .eq 5, 3) by decide +kernel) (by decide) (fun c => ?_) (fun c => ?_)
      · replace h := ite_t c h
        refine v_iinc (pc := 37) (j := 1) [(1, .int (x1 + 1)), (0, .ref x0)] (show decode (tC tLa_missingState) 37 = .ok (.iinc 1 1, 3) by decide +kernel) rfl rfl (by decide) rfl ?_
        refine v_goto (pc := 40) 11 (show decode (tC tLa_missingState) 40 = .ok (.goto (-29), 3) by decide +kernel) (by decide) ?_
        refine v_sub [(0, .ref x0), (1, .int (x1 + 1))] [1, 0] rfl ?_
        exact ih x0 (x1 + 1) S12 h
      · replace h := ite_f c h
        refine v_iload_n (pc := 35) (show decode (tC tLa_missingState) 35 = .ok (.iload_n 1, 1) by decide +kernel) 1 rfl rfl ?_
        obtain rfl := Option.some.inj h
        refine v_wide (ce2 := 0) (sl2 := 0) (by decide) (by decide) ?_
        exact v_iret (pc := 36) rfl (show decode (tC tLa_missingState) 36 = .ok (.ireturn, 1) by decide +kernel)
def fLa_missingState (x0 : Nat) (S : Sx) : Option (Int32 × Sx) :=
    (gI S 1 6 x0).bind fun v1 =>
    if v1 = 0 then
    (some (0, S))
    else
    (fLa_missingState_11  fuel x0 0 S)
set_option maxRecDepth 100000 in
set_option maxHeartbeats 4000000 in
theorem wLa_missingState {Γ : vG} (hR : gR Γ = rLa_missingState) (hl : (gl Γ).flags = pinnedFlags ++ [noTraceFlag]) (x0 : Nat) (S : Sx) {X : Int32 × Sx} (h : fLa_missingState x0 S = some X) : vV Γ tLa_missingState (mQ Γ 0 0 0 (some (.int X.1)) X.2) S 0 0 0 [(0, .ref x0)] [] := by
  unfold fLa_missingState at h
  refine v_aload_n (pc := 0) (show decode (tC tLa_missingState) 0 = .ok (.aload_n 0, 1) by decide +kernel) 0 rfl rfl ?_
  obtain ⟨v1, e2, h⟩ := ob h
  refine v_getI (pc := 1) oF_La_58 (by decide) e2 (show decode (tC tLa_missingState) 1 = .ok (.getfield 58, 3) by decide +kernel) ?_
  refine v_if_ne (pc := 4) 9 (show decode (tC tLa_missingState) 4 = .ok (.ifCond .ne 5, 3) by decide +kernel) (by decide) (fun c => ?_) (fun c => ?_)
  · replace h := ite_f c h
    refine v_iconst (pc := 9) (v := 0) (show decode (tC tLa_missingState) 9 = .ok (.iconst 0, 1) by decide +kernel) (by decide) ?_
    refine v_istore_n (pc := 10) [(1, .int 0), (0, .ref x0)] (show decode (tC tLa_missingState) 10 = .ok (.istore_n 1, 1) by decide +kernel) rfl (by decide) rfl ?_
    refine v_sub [(0, .ref x0), (1, .int 0)] [1, 0] rfl ?_
    exact wLa_missingState_11 hR hl  fuel x0 0 S h
  · replace h := ite_t c h
    refine v_iconst (pc := 7) (v := 0) (show decode (tC tLa_missingState) 7 = .ok (.iconst 0, 1) by decide +kernel) (by decide) ?_
    obtain rfl := Option.some.inj h
    refine v_wide (ce2 := 0) (sl2 := 0) (by decide) (by decide) ?_
    exact v_iret (pc := 8) rfl (show decode (tC tLa_missingState) 8 = .ok (.ireturn, 1) by decide +kernel)
theorem cLa_missingState {l : Launch} (hl : l.flags = pinnedFlags ++ [noTraceFlag]) {D : va_G} {dA : Nat → ClassId} {B : Nat} {x0 : Nat} {S : Sx} {X : Int32 × Sx} (h : fLa_missingState x0 S = some X) : Mx l yLa_missingState tLa_missingState rLa_missingState 0 0 D dA B S [.ref x0] 0 (some (.int X.1)) X.2 :=
  mx_of hl (by decide) rfl rfl (Nat.le_of_ble_eq_true rfl) (fun Γ e1 e2 e3 e4 e5 => by subst e1; subst e3; subst e4; subst e5; exact wLa_missingState e2 hl x0 S h)
/-! MatchPipe$Layout.secondApply(LMatchPipe$Program;)I -/
def yLa_secondApply : MethodName := ⟨"MatchPipe$Layout", "secondApply", "(LMatchPipe$Program;)I"⟩
def tLa_secondApply : tM := (prog_6_method_10_code, "MatchPipe$Layout", 4, "secondApply", some .int, [])
def rLa_secondApply : Room := { frames := 1, cells := 0, slots := 0, locals := 21 }
theorem kLa_secondApply : cOf yLa_secondApply tLa_secondApply ∈ gT := gT_in 929 (by decide +kernel) rfl
theorem iLa_secondApply : Cond.initialized yLa_secondApply.cls ∈ gT := gT_in 63 (by decide +kernel) rfl
theorem mLa_secondApply : okM yLa_secondApply 1 := ⟨by decide, by decide, by unfold nPar; decide +kernel⟩
theorem sLa_secondApply : Cond.static yLa_secondApply ∈ gT := gT_in 928 (by decide +kernel) rfl
def fLa_secondApply_4  : Nat → Nat → Int32 → Int32 → Sx → Option (Int32 × Sx)
  | 0, _, _, _, _ => none
  | n + 1, x0, x1, x2, S =>
    (gI S 1 9 x0).bind fun v1 =>
    if v1 ≤ x2 then
    (some ((-1), S))
    else
    ((gX S 1 4 x0).bind fun v3 =>
    (aX S 6 v3 x2).bind fun v5 =>
    (gI S 6 0 v5).bind fun v7 =>
    bd2 (fMp_hasBit x1 v7 S) fun r10 S11 =>
    if r10 = 0 then
    ((ckd S11 v5 6).bind fun _ =>
    bd2 (fSp_isTest v5 S11) fun r14 S15 =>
    if r14 = 0 then
    ((gI S15 6 0 v5).bind fun v16 =>
    fLa_secondApply_4 n x0 (x1 ||| (1 <<< (v16 &&& 31))) (x2 + 1) S15)
    else
    (fLa_secondApply_4 n x0 (x1 ||| 0) (x2 + 1) S15))
    else
    (some (x2, S11)))
set_option maxRecDepth 100000 in
set_option maxHeartbeats 4000000 in
theorem wLa_secondApply_4 {Γ : vG} (hR : gR Γ = rLa_secondApply) (hl : (gl Γ).flags = pinnedFlags ++ [noTraceFlag]) {X : Int32 × Sx}  : ∀ (n : Nat) (x0 : Nat) (x1 : Int32) (x2 : Int32) (S : Sx), fLa_secondApply_4  n x0 x1 x2 S = some X → vV Γ tLa_secondApply (mQ Γ 0 0 0 (some (.int X.1)) X.2) S 0 0 4 [(0, .ref x0), (1, .int x1), (2, .int x2)] [] := by
  intro n
  induction n with
  | zero => intro x0 x1 x2 S h; rw [fLa_secondApply_4] at h; cases h
  | succ n ih =>
    intro x0 x1 x2 S h
    rw [fLa_secondApply_4] at h
    refine v_iload_n (pc := 4) (show decode (tC tLa_secondApply) 4 = .ok (.iload_n 2, 1) by decide +kernel) 2 rfl rfl ?_
    refine v_aload_n (pc := 5) (show decode (tC tLa_secondApply) 5 = .ok (.aload_n 0, 1) by decide +kernel) 0 rfl rfl ?_
    obtain ⟨v1, e2, h⟩ := ob h
    refine v_getI (pc := 6) oF_La_91 (by decide) e2 (show decode (tC tLa_secondApply) 6 = .ok (.getfield 91, 3) by decide +kernel) ?_
    refine v_icmp_ge (pc := 9) 58 (show decode (tC tLa_secondApply) 9 = .ok (.if_icmp .ge 49, 3) by decide +kernel) (by decide) (fun c => ?_) (fun c => ?_)
    · replace h := ite_t c h
      refine v_iconst (pc := 58) (v := (-1)) (show decode (tC tLa_secondApply) 58 = .ok (.iconst (-1), 1) by decide +kernel) (by decide) ?_
      obtain rfl := Option.some.inj h
      refine v_wide (ce2 := 0) (sl2 := 0) (by decide) (by decide) ?_
      exact v_iret (pc := 59) rfl (show decode (tC tLa_secondApply) 59 = .ok (.ireturn, 1) by decide +kernel)
    · replace h := ite_f c h
      refine v_aload_n (pc := 12) (show decode (tC tLa_secondApply) 12 = .ok (.aload_n 0, 1) by decide +kernel) 0 rfl rfl ?_
      obtain ⟨v3, e4, h⟩ := ob h
      refine v_getX (pc := 13) oF_La_94 e4 (show decode (tC tLa_secondApply) 13 = .ok (.getfield 94, 3) by decide +kernel) ?_
      refine v_iload_n (pc := 16) (show decode (tC tLa_secondApply) 16 = .ok (.iload_n 2, 1) by decide +kernel) 2 rfl rfl ?_
      obtain ⟨v5, e6, h⟩ := ob h
      refine v_aald (pc := 17) (kd := 6) rfl e6 (show decode (tC tLa_secondApply) 17 = .ok (.aaload, 1) by decide +kernel) ?_
      refine v_astore_n (pc := 18) [(3, .ref v5), (0, .ref x0), (1, .int x1), (2, .int x2)] (show decode (tC tLa_secondApply) 18 = .ok (.astore_n 3, 1) by decide +kernel) rfl (by decide) rfl ?_
      refine v_iload_n (pc := 19) (show decode (tC tLa_secondApply) 19 = .ok (.iload_n 1, 1) by decide +kernel) 2 rfl rfl ?_
      refine v_aload_n (pc := 20) (show decode (tC tLa_secondApply) 20 = .ok (.aload_n 3, 1) by decide +kernel) 0 rfl rfl ?_
      obtain ⟨v7, e8, h⟩ := ob h
      refine v_getI (pc := 21) oF_La_107 (by decide) e8 (show decode (tC tLa_secondApply) 21 = .ok (.getfield 107, 3) by decide +kernel) ?_
      obtain ⟨r10, S11, e9, h⟩ := ob2 h
      refine v_call (pc := 24) (v := (some (.int r10))) (y := yMp_hasBit) (θ' := tMp_hasBit) (rm := rMp_hasBit) (av := [.int x1, .int v7]) (st := []) (cMp_hasBit (l := gl Γ) hl e9) kMp_hasBit iMp_hasBit (iv_staticN (y := yMp_hasBit) (θ' := tMp_hasBit) (n := 2) (As := [.int x1, .int v7]) kMp_hasBit (List.mem_of_getElem? (l := nN) (i := 11) rfl) sMp_hasBit iMp_hasBit mMp_hasBit rfl (show decode (tC tLa_secondApply) 24 = .ok (.invokestatic 76, 3) by decide +kernel)) ⟨by rw [hR]; decide, by rw [hR]; decide, by rw [hR]; decide, by rw [hR]; decide⟩ (Nat.le_of_ble_eq_true rfl) ?_
      refine v_if_eq (pc := 27) 32 (show decode (tC tLa_secondApply) 27 = .ok (.ifCond .eq 5, 3) by decide +kernel) (by decide) (fun c => ?_) (fun c => ?_)
      · replace h := ite_t c h
        refine v_iload_n (pc := 32) (show decode (tC tLa_secondApply) 32 = .ok (.iload_n 1, 1) by decide +kernel) 2 rfl rfl ?_
        refine v_aload_n (pc := 33) (show decode (tC tLa_secondApply) 33 = .ok (.aload_n 3, 1) by decide +kernel) 0 rfl rfl ?_
        obtain ⟨_, e13, h⟩ := ob h
        obtain ⟨r14, S15, e12, h⟩ := ob2 h
        refine v_call (pc := 34) (v := (some (.int r14))) (y := ySp_isTest) (θ' := tSp_isTest) (rm := rSp_isTest) (av := [.ref v5]) (st := [.int x1]) (cSp_isTest (l := gl Γ) hl e12) kSp_isTest iSp_isTest (iv_virt (y := ySp_isTest) (θ' := tSp_isTest) (kd := 6) (As := []) rfl (ckd_of e13) kSp_isTest (gT_in 923 (by decide +kernel) rfl) nSp_isTest lSp_isTest mSp_isTest rfl (show decode (tC tLa_secondApply) 34 = .ok (.invokevirtual 98, 3) by decide +kernel)) ⟨by rw [hR]; decide, by rw [hR]; decide, by rw [hR]; decide, by rw [hR]; decide⟩ (Nat.le_of_ble_eq_true rfl) ?_
        refine v_if_eq (pc := 37) 44 (show decode (tC tLa_secondApply) 37 = .ok (.ifCond .eq 7, 3) by decide +kernel) (by decide) (fun c => ?_) (fun c => ?_)
        · replace h := ite_t c h
          refine v_iconst (pc := 44) (v := 1) (show decode (tC tLa_secondApply) 44 = .ok (.iconst 1, 1) by decide +kernel) (by decide) ?_
          refine v_aload_n (pc := 45) (show decode (tC tLa_secondApply) 45 = .ok (.aload_n 3, 1) by decide +kernel) 0 rfl rfl ?_
          obtain ⟨v16, e17, h⟩ := ob h
          refine v_getI (pc := 46) oF_La_107 (by decide) e17 (show decode (tC tLa_secondApply) 46 = .ok (.getfield 107, 3) by decide +kernel) ?_
          refine v_ishl (pc := 49) (show decode (tC tLa_secondApply) 49 = .ok (.ishl, 1) by decide +kernel) ?_
          refine v_ior (pc := 50) (show decode (tC tLa_secondApply) 50 = .ok (.ior, 1) by decide +kernel) ?_
          refine v_istore_n (pc := 51) [(1, .int (x1 ||| (1 <<< (v16 &&& 31)))), (3, .ref v5), (0, .ref x0), (2, .int x2)] (show decode (tC tLa_secondApply) 51 = .ok (.istore_n 1, 1) by decide +kernel) rfl (by decide) rfl ?_
          refine v_iinc (pc := 52) (j := 3) [(2, .int (x2 + 1)), (1, .int (x1 ||| (1 <<< (v16 &&& 31)))), (3, .ref v5), (0, .ref x0)] (show decode (tC tLa_secondApply) 52 = .ok (.iinc 2 1, 3) by decide +kernel) rfl rfl (by decide) rfl ?_
          refine v_goto (pc := 55) 4 (show decode (tC tLa_secondApply) 55 = .ok (.goto (-51), 3) by decide +kernel) (by decide) ?_
          refine v_sub [(0, .ref x0), (1, .int (x1 ||| (1 <<< (v16 &&& 31)))), (2, .int (x2 + 1))] [3, 1, 0] rfl ?_
          exact ih x0 (x1 ||| (1 <<< (v16 &&& 31))) (x2 + 1) S15 h
        · replace h := ite_f c h
          refine v_iconst (pc := 40) (v := 0) (show decode (tC tLa_secondApply) 40 = .ok (.iconst 0, 1) by decide +kernel) (by decide) ?_
          refine v_goto (pc := 41) 50 (show decode (tC tLa_secondApply) 41 = .ok (.goto 9, 3) by decide +kernel) (by decide) ?_
          refine v_ior (pc := 50) (show decode (tC tLa_secondApply) 50 = .ok (.ior, 1) by decide +kernel) ?_
          refine v_istore_n (pc := 51) [(1, .int (x1 ||| 0)), (3, .ref v5), (0, .ref x0), (2, .int x2)] (show decode (tC tLa_secondApply) 51 = .ok (.istore_n 1, 1) by decide +kernel) rfl (by decide) rfl ?_
          refine v_iinc (pc := 52) (j := 3) [(2, .int (x2 + 1)), (1, .int (x1 ||| 0)), (3, .ref v5), (0, .ref x0)] (show decode (tC tLa_secondApply) 52 = .ok (.iinc 2 1, 3) by decide +kernel) rfl rfl (by decide) rfl ?_
          refine v_goto (pc := 55) 4 (show decode (tC tLa_secondApply) 55 = .ok (.goto (-51), 3) by decide +kernel) (by decide) ?_
          refine v_sub [(0, .ref x0), (1, .int (x1 ||| 0)), (2, .int (x2 + 1))] [3, 1, 0] rfl ?_
          exact ih x0 (x1 ||| 0) (x2 + 1) S15 h
      · replace h := ite_f c h
        refine v_iload_n (pc := 30) (show decode (tC tLa_secondApply) 30 = .ok (.iload_n 2, 1) by decide +kernel) 3 rfl rfl ?_
        obtain rfl := Option.some.inj h
        refine v_wide (ce2 := 0) (sl2 := 0) (by decide) (by decide) ?_
        exact v_iret (pc := 31) rfl (show decode (tC tLa_secondApply) 31 = .ok (.ireturn, 1) by decide +kernel)
def fLa_secondApply (x0 : Nat) (S : Sx) : Option (Int32 × Sx) :=
    fLa_secondApply_4  fuel x0 0 0 S
set_option maxRecDepth 100000 in
set_option maxHeartbeats 4000000 in
theorem wLa_secondApply {Γ : vG} (hR : gR Γ = rLa_secondApply) (hl : (gl Γ).flags = pinnedFlags ++ [noTraceFlag]) (x0 : Nat) (S : Sx) {X : Int32 × Sx} (h : fLa_secondApply x0 S = some X) : vV Γ tLa_secondApply (mQ Γ 0 0 0 (some (.int X.1)) X.2) S 0 0 0 [(0, .ref x0)] [] := by
  unfold fLa_secondApply at h
  refine v_iconst (pc := 0) (v := 0) (show decode (tC tLa_secondApply) 0 = .ok (.iconst 0, 1) by decide +kernel) (by decide) ?_
  refine v_istore_n (pc := 1) [(1, .int 0), (0, .ref x0)] (show decode (tC tLa_secondApply) 1 = .ok (.istore_n 1, 1) by decide +kernel) rfl (by decide) rfl ?_
  refine v_iconst (pc := 2) (v := 0) (show decode (tC tLa_secondApply) 2 = .ok (.iconst 0, 1) by decide +kernel) (by decide) ?_
  refine v_istore_n (pc := 3) [(2, .int 0), (1, .int 0), (0, .ref x0)] (show decode (tC tLa_secondApply) 3 = .ok (.istore_n 2, 1) by decide +kernel) rfl (by decide) rfl ?_
  refine v_sub [(0, .ref x0), (1, .int 0), (2, .int 0)] [2, 1, 0] rfl ?_
  exact wLa_secondApply_4 hR hl  fuel x0 0 0 S h
theorem cLa_secondApply {l : Launch} (hl : l.flags = pinnedFlags ++ [noTraceFlag]) {D : va_G} {dA : Nat → ClassId} {B : Nat} {x0 : Nat} {S : Sx} {X : Int32 × Sx} (h : fLa_secondApply x0 S = some X) : Mx l yLa_secondApply tLa_secondApply rLa_secondApply 0 0 D dA B S [.ref x0] 0 (some (.int X.1)) X.2 :=
  mx_of hl (by decide) rfl rfl (Nat.le_of_ble_eq_true rfl) (fun Γ e1 e2 e3 e4 e5 => by subst e1; subst e3; subst e4; subst e5; exact wLa_secondApply e2 hl x0 S h)
/-! MatchPipe$Layout.sharedArray(LMatchPipe$Program;)I -/
def yLa_sharedArray : MethodName := ⟨"MatchPipe$Layout", "sharedArray", "(LMatchPipe$Program;)I"⟩
def tLa_sharedArray : tM := (prog_6_method_11_code, "MatchPipe$Layout", 5, "sharedArray", some .int, [])
def rLa_sharedArray : Room := { frames := 2, cells := 0, slots := 0, locals := 45 }
theorem kLa_sharedArray : cOf yLa_sharedArray tLa_sharedArray ∈ gT := gT_in 932 (by decide +kernel) rfl
theorem iLa_sharedArray : Cond.initialized yLa_sharedArray.cls ∈ gT := gT_in 63 (by decide +kernel) rfl
theorem mLa_sharedArray : okM yLa_sharedArray 1 := ⟨by decide, by decide, by unfold nPar; decide +kernel⟩
theorem sLa_sharedArray : Cond.static yLa_sharedArray ∈ gT := gT_in 931 (by decide +kernel) rfl
def fLa_sharedArray_46  : Nat → Int32 → Int32 → Sx → Option (Int32 × Sx)
  | 0, _, _, _ => none
  | n + 1, x2, x3, S =>
    if (4 : Int32) ≤ x3 then
    (some ((-1), S))
    else
    (bd2 (fMp_hasBit x2 x3 S) fun r2 S3 =>
    if r2 = 0 then
    (fLa_sharedArray_46 n x2 (x3 + 1) S3)
    else
    (some (x3, S3)))
set_option maxRecDepth 100000 in
set_option maxHeartbeats 4000000 in
theorem wLa_sharedArray_46 {Γ : vG} (hR : gR Γ = rLa_sharedArray) (hl : (gl Γ).flags = pinnedFlags ++ [noTraceFlag]) {X : Int32 × Sx}  : ∀ (n : Nat) (x2 : Int32) (x3 : Int32) (S : Sx), fLa_sharedArray_46  n x2 x3 S = some X → vV Γ tLa_sharedArray (mQ Γ 0 0 0 (some (.int X.1)) X.2) S 0 0 46 [(2, .int x2), (3, .int x3)] [] := by
  intro n
  induction n with
  | zero => intro x2 x3 S h; rw [fLa_sharedArray_46] at h; cases h
  | succ n ih =>
    intro x2 x3 S h
    rw [fLa_sharedArray_46] at h
    refine v_iload_n (pc := 46) (show decode (tC tLa_sharedArray) 46 = .ok (.iload_n 3, 1) by decide +kernel) 1 rfl rfl ?_
    refine v_iconst (pc := 47) (v := 4) (show decode (tC tLa_sharedArray) 47 = .ok (.iconst 4, 1) by decide +kernel) (by decide) ?_
    refine v_icmp_ge (pc := 48) 67 (show decode (tC tLa_sharedArray) 48 = .ok (.if_icmp .ge 19, 3) by decide +kernel) (by decide) (fun c => ?_) (fun c => ?_)
    · replace h := ite_t c h
      refine v_iconst (pc := 67) (v := (-1)) (show decode (tC tLa_sharedArray) 67 = .ok (.iconst (-1), 1) by decide +kernel) (by decide) ?_
      obtain rfl := Option.some.inj h
      refine v_wide (ce2 := 0) (sl2 := 0) (by decide) (by decide) ?_
      exact v_iret (pc := 68) rfl (show decode (tC tLa_sharedArray) 68 = .ok (.ireturn, 1) by decide +kernel)
    · replace h := ite_f c h
      refine v_iload_n (pc := 51) (show decode (tC tLa_sharedArray) 51 = .ok (.iload_n 2, 1) by decide +kernel) 0 rfl rfl ?_
      refine v_iload_n (pc := 52) (show decode (tC tLa_sharedArray) 52 = .ok (.iload_n 3, 1) by decide +kernel) 1 rfl rfl ?_
      obtain ⟨r2, S3, e1, h⟩ := ob2 h
      refine v_call (pc := 53) (v := (some (.int r2))) (y := yMp_hasBit) (θ' := tMp_hasBit) (rm := rMp_hasBit) (av := [.int x2, .int x3]) (st := []) (cMp_hasBit (l := gl Γ) hl e1) kMp_hasBit iMp_hasBit (iv_staticN (y := yMp_hasBit) (θ' := tMp_hasBit) (n := 2) (As := [.int x2, .int x3]) kMp_hasBit (List.mem_of_getElem? (l := nN) (i := 11) rfl) sMp_hasBit iMp_hasBit mMp_hasBit rfl (show decode (tC tLa_sharedArray) 53 = .ok (.invokestatic 76, 3) by decide +kernel)) ⟨by rw [hR]; decide, by rw [hR]; decide, by rw [hR]; decide, by rw [hR]; decide⟩ (Nat.le_of_ble_eq_true rfl) ?_
      refine v_if_eq (pc := 56) 61 (show decode (tC tLa_sharedArray) 56 = .ok (.ifCond .eq 5, 3) by decide +kernel) (by decide) (fun c => ?_) (fun c => ?_)
      · replace h := ite_t c h
        refine v_iinc (pc := 61) (j := 1) [(3, .int (x3 + 1)), (2, .int x2)] (show decode (tC tLa_sharedArray) 61 = .ok (.iinc 3 1, 3) by decide +kernel) rfl rfl (by decide) rfl ?_
        refine v_goto (pc := 64) 46 (show decode (tC tLa_sharedArray) 64 = .ok (.goto (-18), 3) by decide +kernel) (by decide) ?_
        refine v_sub [(2, .int x2), (3, .int (x3 + 1))] [1, 0] rfl ?_
        exact ih x2 (x3 + 1) S3 h
      · replace h := ite_f c h
        refine v_iload_n (pc := 59) (show decode (tC tLa_sharedArray) 59 = .ok (.iload_n 3, 1) by decide +kernel) 1 rfl rfl ?_
        obtain rfl := Option.some.inj h
        refine v_wide (ce2 := 0) (sl2 := 0) (by decide) (by decide) ?_
        exact v_iret (pc := 60) rfl (show decode (tC tLa_sharedArray) 60 = .ok (.ireturn, 1) by decide +kernel)
def fLa_sharedArray_6  : Nat → Nat → Int32 → Int32 → Int32 → Sx → Option (Int32 × Sx)
  | 0, _, _, _, _, _ => none
  | n + 1, x0, x1, x2, x3, S =>
    (gI S 1 9 x0).bind fun v1 =>
    if v1 ≤ x3 then
    (fLa_sharedArray_46  fuel x2 0 S)
    else
    ((gX S 1 4 x0).bind fun v3 =>
    (aX S 6 v3 x3).bind fun v5 =>
    (ckd S x0 1).bind fun _ =>
    bd2 (fPr_arraysOf x0 v5 S) fun r9 S10 =>
    fLa_sharedArray_6 n x0 (x1 ||| r9) (x2 ||| (x1 &&& r9)) (x3 + 1) S10)
set_option maxRecDepth 100000 in
set_option maxHeartbeats 4000000 in
theorem wLa_sharedArray_6 {Γ : vG} (hR : gR Γ = rLa_sharedArray) (hl : (gl Γ).flags = pinnedFlags ++ [noTraceFlag]) {X : Int32 × Sx}  : ∀ (n : Nat) (x0 : Nat) (x1 : Int32) (x2 : Int32) (x3 : Int32) (S : Sx), fLa_sharedArray_6  n x0 x1 x2 x3 S = some X → vV Γ tLa_sharedArray (mQ Γ 0 0 0 (some (.int X.1)) X.2) S 0 0 6 [(0, .ref x0), (1, .int x1), (2, .int x2), (3, .int x3)] [] := by
  intro n
  induction n with
  | zero => intro x0 x1 x2 x3 S h; rw [fLa_sharedArray_6] at h; cases h
  | succ n ih =>
    intro x0 x1 x2 x3 S h
    rw [fLa_sharedArray_6] at h
    refine v_iload_n (pc := 6) (show decode (tC tLa_sharedArray) 6 = .ok (.iload_n 3, 1) by decide +kernel) 3 rfl rfl ?_
    refine v_aload_n (pc := 7) (show decode (tC tLa_sharedArray) 7 = .ok (.aload_n 0, 1) by decide +kernel) 0 rfl rfl ?_
    obtain ⟨v1, e2, h⟩ := ob h
    refine v_getI (pc := 8) oF_La_91 (by decide) e2 (show decode (tC tLa_sharedArray) 8 = .ok (.getfield 91, 3) by decide +kernel) ?_
    refine v_icmp_ge (pc := 11) 44 (show decode (tC tLa_sharedArray) 11 = .ok (.if_icmp .ge 33, 3) by decide +kernel) (by decide) (fun c => ?_) (fun c => ?_)
    · replace h := ite_t c h
      refine v_iconst (pc := 44) (v := 0) (show decode (tC tLa_sharedArray) 44 = .ok (.iconst 0, 1) by decide +kernel) (by decide) ?_
      refine v_istore_n (pc := 45) [(3, .int 0), (0, .ref x0), (1, .int x1), (2, .int x2)] (show decode (tC tLa_sharedArray) 45 = .ok (.istore_n 3, 1) by decide +kernel) rfl (by decide) rfl ?_
      refine v_sub [(2, .int x2), (3, .int 0)] [3, 0] rfl ?_
      exact wLa_sharedArray_46 hR hl  fuel x2 0 S h
    · replace h := ite_f c h
      refine v_aload_n (pc := 14) (show decode (tC tLa_sharedArray) 14 = .ok (.aload_n 0, 1) by decide +kernel) 0 rfl rfl ?_
      refine v_aload_n (pc := 15) (show decode (tC tLa_sharedArray) 15 = .ok (.aload_n 0, 1) by decide +kernel) 0 rfl rfl ?_
      obtain ⟨v3, e4, h⟩ := ob h
      refine v_getX (pc := 16) oF_La_94 e4 (show decode (tC tLa_sharedArray) 16 = .ok (.getfield 94, 3) by decide +kernel) ?_
      refine v_iload_n (pc := 19) (show decode (tC tLa_sharedArray) 19 = .ok (.iload_n 3, 1) by decide +kernel) 3 rfl rfl ?_
      obtain ⟨v5, e6, h⟩ := ob h
      refine v_aald (pc := 20) (kd := 6) rfl e6 (show decode (tC tLa_sharedArray) 20 = .ok (.aaload, 1) by decide +kernel) ?_
      obtain ⟨_, e8, h⟩ := ob h
      obtain ⟨r9, S10, e7, h⟩ := ob2 h
      refine v_call (pc := 21) (v := (some (.int r9))) (y := yPr_arraysOf) (θ' := tPr_arraysOf) (rm := rPr_arraysOf) (av := [.ref x0, .ref v5]) (st := []) (cPr_arraysOf (l := gl Γ) hl e7) kPr_arraysOf iPr_arraysOf (iv_virt (y := yPr_arraysOf) (θ' := tPr_arraysOf) (kd := 1) (As := [.ref v5]) rfl (ckd_of e8) kPr_arraysOf (gT_in 933 (by decide +kernel) rfl) nPr_arraysOf lPr_arraysOf mPr_arraysOf rfl (show decode (tC tLa_sharedArray) 21 = .ok (.invokevirtual 110, 3) by decide +kernel)) ⟨by rw [hR]; decide, by rw [hR]; decide, by rw [hR]; decide, by rw [hR]; decide⟩ (Nat.le_of_ble_eq_true rfl) ?_
      refine v_istore (pc := 24) [(4, .int r9), (0, .ref x0), (1, .int x1), (2, .int x2), (3, .int x3)] (show decode (tC tLa_sharedArray) 24 = .ok (.istore 4, 2) by decide +kernel) (by decide) rfl ?_
      refine v_iload_n (pc := 26) (show decode (tC tLa_sharedArray) 26 = .ok (.iload_n 2, 1) by decide +kernel) 3 rfl rfl ?_
      refine v_iload_n (pc := 27) (show decode (tC tLa_sharedArray) 27 = .ok (.iload_n 1, 1) by decide +kernel) 2 rfl rfl ?_
      refine v_iload (pc := 28) (show decode (tC tLa_sharedArray) 28 = .ok (.iload 4, 2) by decide +kernel) 0 rfl ?_
      refine v_iand (pc := 30) (show decode (tC tLa_sharedArray) 30 = .ok (.iand, 1) by decide +kernel) ?_
      refine v_ior (pc := 31) (show decode (tC tLa_sharedArray) 31 = .ok (.ior, 1) by decide +kernel) ?_
      refine v_istore_n (pc := 32) [(2, .int (x2 ||| (x1 &&& r9))), (4, .int r9), (0, .ref x0), (1, .int x1), (3, .int x3)] (show decode (tC tLa_sharedArray) 32 = .ok (.istore_n 2, 1) by decide +kernel) rfl (by decide) rfl ?_
      refine v_iload_n (pc := 33) (show decode (tC tLa_sharedArray) 33 = .ok (.iload_n 1, 1) by decide +kernel) 3 rfl rfl ?_
      refine v_iload (pc := 34) (show decode (tC tLa_sharedArray) 34 = .ok (.iload 4, 2) by decide +kernel) 1 rfl ?_
      refine v_ior (pc := 36) (show decode (tC tLa_sharedArray) 36 = .ok (.ior, 1) by decide +kernel) ?_
      refine v_istore_n (pc := 37) [(1, .int (x1 ||| r9)), (2, .int (x2 ||| (x1 &&& r9))), (4, .int r9), (0, .ref x0), (3, .int x3)] (show decode (tC tLa_sharedArray) 37 = .ok (.istore_n 1, 1) by decide +kernel) rfl (by decide) rfl ?_
      refine v_iinc (pc := 38) (j := 4) [(3, .int (x3 + 1)), (1, .int (x1 ||| r9)), (2, .int (x2 ||| (x1 &&& r9))), (4, .int r9), (0, .ref x0)] (show decode (tC tLa_sharedArray) 38 = .ok (.iinc 3 1, 3) by decide +kernel) rfl rfl (by decide) rfl ?_
      refine v_goto (pc := 41) 6 (show decode (tC tLa_sharedArray) 41 = .ok (.goto (-35), 3) by decide +kernel) (by decide) ?_
      refine v_sub [(0, .ref x0), (1, .int (x1 ||| r9)), (2, .int (x2 ||| (x1 &&& r9))), (3, .int (x3 + 1))] [4, 1, 2, 0] rfl ?_
      exact ih x0 (x1 ||| r9) (x2 ||| (x1 &&& r9)) (x3 + 1) S10 h
def fLa_sharedArray (x0 : Nat) (S : Sx) : Option (Int32 × Sx) :=
    fLa_sharedArray_6  fuel x0 0 0 0 S
set_option maxRecDepth 100000 in
set_option maxHeartbeats 4000000 in
theorem wLa_sharedArray {Γ : vG} (hR : gR Γ = rLa_sharedArray) (hl : (gl Γ).flags = pinnedFlags ++ [noTraceFlag]) (x0 : Nat) (S : Sx) {X : Int32 × Sx} (h : fLa_sharedArray x0 S = some X) : vV Γ tLa_sharedArray (mQ Γ 0 0 0 (some (.int X.1)) X.2) S 0 0 0 [(0, .ref x0)] [] := by
  unfold fLa_sharedArray at h
  refine v_iconst (pc := 0) (v := 0) (show decode (tC tLa_sharedArray) 0 = .ok (.iconst 0, 1) by decide +kernel) (by decide) ?_
  refine v_istore_n (pc := 1) [(1, .int 0), (0, .ref x0)] (show decode (tC tLa_sharedArray) 1 = .ok (.istore_n 1, 1) by decide +kernel) rfl (by decide) rfl ?_
  refine v_iconst (pc := 2) (v := 0) (show decode (tC tLa_sharedArray) 2 = .ok (.iconst 0, 1) by decide +kernel) (by decide) ?_
  refine v_istore_n (pc := 3) [(2, .int 0), (1, .int 0), (0, .ref x0)] (show decode (tC tLa_sharedArray) 3 = .ok (.istore_n 2, 1) by decide +kernel) rfl (by decide) rfl ?_
  refine v_iconst (pc := 4) (v := 0) (show decode (tC tLa_sharedArray) 4 = .ok (.iconst 0, 1) by decide +kernel) (by decide) ?_
  refine v_istore_n (pc := 5) [(3, .int 0), (2, .int 0), (1, .int 0), (0, .ref x0)] (show decode (tC tLa_sharedArray) 5 = .ok (.istore_n 3, 1) by decide +kernel) rfl (by decide) rfl ?_
  refine v_sub [(0, .ref x0), (1, .int 0), (2, .int 0), (3, .int 0)] [3, 2, 1, 0] rfl ?_
  exact wLa_sharedArray_6 hR hl  fuel x0 0 0 0 S h
theorem cLa_sharedArray {l : Launch} (hl : l.flags = pinnedFlags ++ [noTraceFlag]) {D : va_G} {dA : Nat → ClassId} {B : Nat} {x0 : Nat} {S : Sx} {X : Int32 × Sx} (h : fLa_sharedArray x0 S = some X) : Mx l yLa_sharedArray tLa_sharedArray rLa_sharedArray 0 0 D dA B S [.ref x0] 0 (some (.int X.1)) X.2 :=
  mx_of hl (by decide) rfl rfl (Nat.le_of_ble_eq_true rfl) (fun Γ e1 e2 e3 e4 e5 => by subst e1; subst e3; subst e4; subst e5; exact wLa_sharedArray e2 hl x0 S h)
/-! MatchPipe$Layout.stepBeyondStages(LMatchPipe$Program;)I -/
def yLa_stepBeyondStages : MethodName := ⟨"MatchPipe$Layout", "stepBeyondStages", "(LMatchPipe$Program;)I"⟩
def tLa_stepBeyondStages : tM := (prog_6_method_12_code, "MatchPipe$Layout", 9, "stepBeyondStages", some .int, [])
def rLa_stepBeyondStages : Room := { frames := 2, cells := 0, slots := 0, locals := 46 }
theorem kLa_stepBeyondStages : cOf yLa_stepBeyondStages tLa_stepBeyondStages ∈ gT := gT_in 946 (by decide +kernel) rfl
theorem iLa_stepBeyondStages : Cond.initialized yLa_stepBeyondStages.cls ∈ gT := gT_in 63 (by decide +kernel) rfl
theorem mLa_stepBeyondStages : okM yLa_stepBeyondStages 1 := ⟨by decide, by decide, by unfold nPar; decide +kernel⟩
theorem nLa_stepBeyondStages : Cond.instanceMethod yLa_stepBeyondStages ∈ gT := gT_in 945 (by decide +kernel) rfl
theorem lLa_stepBeyondStages : Cond.selects "MatchPipe$Layout" yLa_stepBeyondStages yLa_stepBeyondStages ∈ gT := gT_in 9 (by decide +kernel) rfl
def fLa_stepBeyondStages_134 (k15 : Nat → Nat → Int32 → Int32 → Int32 → Sx → Option (Int32 × Sx)) (x0 : Nat) (x1 : Nat) (x2 : Int32) (x3 : Int32) (x4 : Int32) (x5 : Nat) (x6 : Int32) (S : Sx) : Option (Int32 × Sx) :=
    (gX S 7 0 x0).bind fun v1 =>
    (qI S v1 x4 x2).bind fun S3 =>
    (ckd S3 x5 6).bind fun _ =>
    bd2 (fSp_isTest x5 S3) fun r7 S8 =>
    if r7 = 0 then
    ((gX S8 7 2 x0).bind fun v9 =>
    (gI S8 6 0 x5).bind fun v11 =>
    (qI S8 v9 v11 x2).bind fun S13 =>
    k15 x0 x1 x2 (x3 ||| x6) (x4 + 1) S13)
    else
    (k15 x0 x1 x2 (x3 ||| x6) (x4 + 1) S8)
set_option maxRecDepth 100000 in
set_option maxHeartbeats 4000000 in
theorem wLa_stepBeyondStages_134 {Γ : vG} (hR : gR Γ = rLa_stepBeyondStages) (hl : (gl Γ).flags = pinnedFlags ++ [noTraceFlag]) {X : Int32 × Sx} {k15 : Nat → Nat → Int32 → Int32 → Int32 → Sx → Option (Int32 × Sx)} (hk15 : ∀ (x0 : Nat) (x1 : Nat) (x2 : Int32) (x3 : Int32) (x4 : Int32) (S : Sx), k15 x0 x1 x2 x3 x4 S = some X → vV Γ tLa_stepBeyondStages (mQ Γ 0 0 0 (some (.int X.1)) X.2) S 0 0 15 [(0, .ref x0), (1, .ref x1), (2, .int x2), (3, .int x3), (4, .int x4)] []) : ∀ (x0 : Nat) (x1 : Nat) (x2 : Int32) (x3 : Int32) (x4 : Int32) (x5 : Nat) (x6 : Int32) (S : Sx), fLa_stepBeyondStages_134 k15 x0 x1 x2 x3 x4 x5 x6 S = some X → vV Γ tLa_stepBeyondStages (mQ Γ 0 0 0 (some (.int X.1)) X.2) S 0 0 134 [(0, .ref x0), (1, .ref x1), (2, .int x2), (3, .int x3), (4, .int x4), (5, .ref x5), (6, .int x6)] [] := by
  intro x0 x1 x2 x3 x4 x5 x6 S h
  unfold fLa_stepBeyondStages_134 at h
  refine v_iload_n (pc := 134) (show decode (tC tLa_stepBeyondStages) 134 = .ok (.iload_n 3, 1) by decide +kernel) 3 rfl rfl ?_
  refine v_iload (pc := 135) (show decode (tC tLa_stepBeyondStages) 135 = .ok (.iload 6, 2) by decide +kernel) 6 rfl ?_
  refine v_ior (pc := 137) (show decode (tC tLa_stepBeyondStages) 137 = .ok (.ior, 1) by decide +kernel) ?_
  refine v_istore_n (pc := 138) [(3, .int (x3 ||| x6)), (0, .ref x0), (1, .ref x1), (2, .int x2), (4, .int x4), (5, .ref x5), (6, .int x6)] (show decode (tC tLa_stepBeyondStages) 138 = .ok (.istore_n 3, 1) by decide +kernel) rfl (by decide) rfl ?_
  refine v_aload_n (pc := 139) (show decode (tC tLa_stepBeyondStages) 139 = .ok (.aload_n 0, 1) by decide +kernel) 1 rfl rfl ?_
  obtain ⟨v1, e2, h⟩ := ob h
  refine v_getX (pc := 140) oF_La_9 e2 (show decode (tC tLa_stepBeyondStages) 140 = .ok (.getfield 9, 3) by decide +kernel) ?_
  refine v_iload (pc := 143) (show decode (tC tLa_stepBeyondStages) 143 = .ok (.iload 4, 2) by decide +kernel) 4 rfl ?_
  refine v_iload_n (pc := 145) (show decode (tC tLa_stepBeyondStages) 145 = .ok (.iload_n 2, 1) by decide +kernel) 3 rfl rfl ?_
  obtain ⟨S3, e4, h⟩ := ob h
  refine v_iast (pc := 146) e4 (show decode (tC tLa_stepBeyondStages) 146 = .ok (.iastore, 1) by decide +kernel) ?_
  refine v_aload (pc := 147) (show decode (tC tLa_stepBeyondStages) 147 = .ok (.aload 5, 2) by decide +kernel) 5 rfl ?_
  obtain ⟨_, e6, h⟩ := ob h
  obtain ⟨r7, S8, e5, h⟩ := ob2 h
  refine v_call (pc := 149) (v := (some (.int r7))) (y := ySp_isTest) (θ' := tSp_isTest) (rm := rSp_isTest) (av := [.ref x5]) (st := []) (cSp_isTest (l := gl Γ) hl e5) kSp_isTest iSp_isTest (iv_virt (y := ySp_isTest) (θ' := tSp_isTest) (kd := 6) (As := []) rfl (ckd_of e6) kSp_isTest (gT_in 923 (by decide +kernel) rfl) nSp_isTest lSp_isTest mSp_isTest rfl (show decode (tC tLa_stepBeyondStages) 149 = .ok (.invokevirtual 98, 3) by decide +kernel)) ⟨by rw [hR]; decide, by rw [hR]; decide, by rw [hR]; decide, by rw [hR]; decide⟩ (Nat.le_of_ble_eq_true rfl) ?_
  refine v_if_ne (pc := 152) 166 (show decode (tC tLa_stepBeyondStages) 152 = .ok (.ifCond .ne 14, 3) by decide +kernel) (by decide) (fun c => ?_) (fun c => ?_)
  · replace h := ite_f c h
    refine v_iinc (pc := 166) (j := 4) [(4, .int (x4 + 1)), (3, .int (x3 ||| x6)), (0, .ref x0), (1, .ref x1), (2, .int x2), (5, .ref x5), (6, .int x6)] (show decode (tC tLa_stepBeyondStages) 166 = .ok (.iinc 4 1, 3) by decide +kernel) rfl rfl (by decide) rfl ?_
    refine v_goto (pc := 169) 15 (show decode (tC tLa_stepBeyondStages) 169 = .ok (.goto (-154), 3) by decide +kernel) (by decide) ?_
    refine v_sub [(0, .ref x0), (1, .ref x1), (2, .int x2), (3, .int (x3 ||| x6)), (4, .int (x4 + 1))] [2, 3, 4, 1, 0] rfl ?_
    exact hk15 x0 x1 x2 (x3 ||| x6) (x4 + 1) S8 h
  · replace h := ite_t c h
    refine v_aload_n (pc := 155) (show decode (tC tLa_stepBeyondStages) 155 = .ok (.aload_n 0, 1) by decide +kernel) 1 rfl rfl ?_
    obtain ⟨v9, e10, h⟩ := ob h
    refine v_getX (pc := 156) oF_La_18 e10 (show decode (tC tLa_stepBeyondStages) 156 = .ok (.getfield 18, 3) by decide +kernel) ?_
    refine v_aload (pc := 159) (show decode (tC tLa_stepBeyondStages) 159 = .ok (.aload 5, 2) by decide +kernel) 5 rfl ?_
    obtain ⟨v11, e12, h⟩ := ob h
    refine v_getI (pc := 161) oF_La_107 (by decide) e12 (show decode (tC tLa_stepBeyondStages) 161 = .ok (.getfield 107, 3) by decide +kernel) ?_
    refine v_iload_n (pc := 164) (show decode (tC tLa_stepBeyondStages) 164 = .ok (.iload_n 2, 1) by decide +kernel) 3 rfl rfl ?_
    obtain ⟨S13, e14, h⟩ := ob h
    refine v_iast (pc := 165) e14 (show decode (tC tLa_stepBeyondStages) 165 = .ok (.iastore, 1) by decide +kernel) ?_
    refine v_iinc (pc := 166) (j := 4) [(4, .int (x4 + 1)), (3, .int (x3 ||| x6)), (0, .ref x0), (1, .ref x1), (2, .int x2), (5, .ref x5), (6, .int x6)] (show decode (tC tLa_stepBeyondStages) 166 = .ok (.iinc 4 1, 3) by decide +kernel) rfl rfl (by decide) rfl ?_
    refine v_goto (pc := 169) 15 (show decode (tC tLa_stepBeyondStages) 169 = .ok (.goto (-154), 3) by decide +kernel) (by decide) ?_
    refine v_sub [(0, .ref x0), (1, .ref x1), (2, .int x2), (3, .int (x3 ||| x6)), (4, .int (x4 + 1))] [2, 3, 4, 1, 0] rfl ?_
    exact hk15 x0 x1 x2 (x3 ||| x6) (x4 + 1) S13 h
def fLa_stepBeyondStages_112 (k15 : Nat → Nat → Int32 → Int32 → Int32 → Sx → Option (Int32 × Sx)) (x0 : Nat) (x1 : Nat) (x2 : Int32) (x4 : Int32) (x5 : Nat) (x6 : Int32) (S : Sx) : Option (Int32 × Sx) :=
    if (x2 + 1) < 12 then
    ((gX S 7 1 x0).bind fun v1 =>
    (qI S v1 (x2 + 1) x4).bind fun S3 =>
    fLa_stepBeyondStages_134 k15 x0 x1 (x2 + 1) 0 x4 x5 x6 S3)
    else
    (some (x4, S))
set_option maxRecDepth 100000 in
set_option maxHeartbeats 4000000 in
theorem wLa_stepBeyondStages_112 {Γ : vG} (hR : gR Γ = rLa_stepBeyondStages) (hl : (gl Γ).flags = pinnedFlags ++ [noTraceFlag]) {X : Int32 × Sx} {k15 : Nat → Nat → Int32 → Int32 → Int32 → Sx → Option (Int32 × Sx)} (hk15 : ∀ (x0 : Nat) (x1 : Nat) (x2 : Int32) (x3 : Int32) (x4 : Int32) (S : Sx), k15 x0 x1 x2 x3 x4 S = some X → vV Γ tLa_stepBeyondStages (mQ Γ 0 0 0 (some (.int X.1)) X.2) S 0 0 15 [(0, .ref x0), (1, .ref x1), (2, .int x2), (3, .int x3), (4, .int x4)] []) : ∀ (x0 : Nat) (x1 : Nat) (x2 : Int32) (x4 : Int32) (x5 : Nat) (x6 : Int32) (S : Sx), fLa_stepBeyondStages_112 k15 x0 x1 x2 x4 x5 x6 S = some X → vV Γ tLa_stepBeyondStages (mQ Γ 0 0 0 (some (.int X.1)) X.2) S 0 0 112 [(0, .ref x0), (1, .ref x1), (2, .int x2), (4, .int x4), (5, .ref x5), (6, .int x6)] [] := by
  intro x0 x1 x2 x4 x5 x6 S h
  unfold fLa_stepBeyondStages_112 at h
  refine v_iinc (pc := 112) (j := 2) [(2, .int (x2 + 1)), (0, .ref x0), (1, .ref x1), (4, .int x4), (5, .ref x5), (6, .int x6)] (show decode (tC tLa_stepBeyondStages) 112 = .ok (.iinc 2 1, 3) by decide +kernel) rfl rfl (by decide) rfl ?_
  refine v_iconst (pc := 115) (v := 0) (show decode (tC tLa_stepBeyondStages) 115 = .ok (.iconst 0, 1) by decide +kernel) (by decide) ?_
  refine v_istore_n (pc := 116) [(3, .int 0), (2, .int (x2 + 1)), (0, .ref x0), (1, .ref x1), (4, .int x4), (5, .ref x5), (6, .int x6)] (show decode (tC tLa_stepBeyondStages) 116 = .ok (.istore_n 3, 1) by decide +kernel) rfl (by decide) rfl ?_
  refine v_iload_n (pc := 117) (show decode (tC tLa_stepBeyondStages) 117 = .ok (.iload_n 2, 1) by decide +kernel) 1 rfl rfl ?_
  refine v_bipush (pc := 118) (v := 12) (show decode (tC tLa_stepBeyondStages) 118 = .ok (.bipush 12, 2) by decide +kernel) (by decide) ?_
  refine v_icmp_lt (pc := 120) 126 (show decode (tC tLa_stepBeyondStages) 120 = .ok (.if_icmp .lt 6, 3) by decide +kernel) (by decide) (fun c => ?_) (fun c => ?_)
  · replace h := ite_t c h
    refine v_aload_n (pc := 126) (show decode (tC tLa_stepBeyondStages) 126 = .ok (.aload_n 0, 1) by decide +kernel) 2 rfl rfl ?_
    obtain ⟨v1, e2, h⟩ := ob h
    refine v_getX (pc := 127) oF_La_15 e2 (show decode (tC tLa_stepBeyondStages) 127 = .ok (.getfield 15, 3) by decide +kernel) ?_
    refine v_iload_n (pc := 130) (show decode (tC tLa_stepBeyondStages) 130 = .ok (.iload_n 2, 1) by decide +kernel) 1 rfl rfl ?_
    refine v_iload (pc := 131) (show decode (tC tLa_stepBeyondStages) 131 = .ok (.iload 4, 2) by decide +kernel) 4 rfl ?_
    obtain ⟨S3, e4, h⟩ := ob h
    refine v_iast (pc := 133) e4 (show decode (tC tLa_stepBeyondStages) 133 = .ok (.iastore, 1) by decide +kernel) ?_
    refine v_sub [(0, .ref x0), (1, .ref x1), (2, .int (x2 + 1)), (3, .int 0), (4, .int x4), (5, .ref x5), (6, .int x6)] [2, 3, 1, 0, 4, 5, 6] rfl ?_
    exact wLa_stepBeyondStages_134 hR hl hk15 x0 x1 (x2 + 1) 0 x4 x5 x6 S3 h
  · replace h := ite_f c h
    refine v_iload (pc := 123) (show decode (tC tLa_stepBeyondStages) 123 = .ok (.iload 4, 2) by decide +kernel) 4 rfl ?_
    obtain rfl := Option.some.inj h
    refine v_wide (ce2 := 0) (sl2 := 0) (by decide) (by decide) ?_
    exact v_iret (pc := 125) rfl (show decode (tC tLa_stepBeyondStages) 125 = .ok (.ireturn, 1) by decide +kernel)
def fLa_stepBeyondStages_87 (k15 : Nat → Nat → Int32 → Int32 → Int32 → Sx → Option (Int32 × Sx)) (x0 : Nat) (x1 : Nat) (x2 : Int32) (x3 : Int32) (x4 : Int32) (x5 : Nat) (x6 : Int32) (x7 : Int32) (z0 : Int32) (S : Sx) : Option (Int32 × Sx) :=
    if x7 = 0 then
    (if z0 = 0 then
    ((gX S 7 1 x0).bind fun v1 =>
    (aI S v1 x2).bind fun v3 =>
    if (x4 - v3) < 3 then
    (fLa_stepBeyondStages_134 k15 x0 x1 x2 x3 x4 x5 x6 S)
    else
    (fLa_stepBeyondStages_112 k15 x0 x1 x2 x4 x5 x6 S))
    else
    (fLa_stepBeyondStages_112 k15 x0 x1 x2 x4 x5 x6 S))
    else
    (fLa_stepBeyondStages_112 k15 x0 x1 x2 x4 x5 x6 S)
set_option maxRecDepth 100000 in
set_option maxHeartbeats 4000000 in
theorem wLa_stepBeyondStages_87 {Γ : vG} (hR : gR Γ = rLa_stepBeyondStages) (hl : (gl Γ).flags = pinnedFlags ++ [noTraceFlag]) {X : Int32 × Sx} {k15 : Nat → Nat → Int32 → Int32 → Int32 → Sx → Option (Int32 × Sx)} (hk15 : ∀ (x0 : Nat) (x1 : Nat) (x2 : Int32) (x3 : Int32) (x4 : Int32) (S : Sx), k15 x0 x1 x2 x3 x4 S = some X → vV Γ tLa_stepBeyondStages (mQ Γ 0 0 0 (some (.int X.1)) X.2) S 0 0 15 [(0, .ref x0), (1, .ref x1), (2, .int x2), (3, .int x3), (4, .int x4)] []) : ∀ (x0 : Nat) (x1 : Nat) (x2 : Int32) (x3 : Int32) (x4 : Int32) (x5 : Nat) (x6 : Int32) (x7 : Int32) (z0 : Int32) (S : Sx), fLa_stepBeyondStages_87 k15 x0 x1 x2 x3 x4 x5 x6 x7 z0 S = some X → vV Γ tLa_stepBeyondStages (mQ Γ 0 0 0 (some (.int X.1)) X.2) S 0 0 87 [(0, .ref x0), (1, .ref x1), (2, .int x2), (3, .int x3), (4, .int x4), (5, .ref x5), (6, .int x6), (7, .int x7)] [.int z0] := by
  intro x0 x1 x2 x3 x4 x5 x6 x7 z0 S h
  unfold fLa_stepBeyondStages_87 at h
  refine v_istore (pc := 87) [(8, .int z0), (0, .ref x0), (1, .ref x1), (2, .int x2), (3, .int x3), (4, .int x4), (5, .ref x5), (6, .int x6), (7, .int x7)] (show decode (tC tLa_stepBeyondStages) 87 = .ok (.istore 8, 2) by decide +kernel) (by decide) rfl ?_
  refine v_iload (pc := 89) (show decode (tC tLa_stepBeyondStages) 89 = .ok (.iload 7, 2) by decide +kernel) 8 rfl ?_
  refine v_if_ne (pc := 91) 112 (show decode (tC tLa_stepBeyondStages) 91 = .ok (.ifCond .ne 21, 3) by decide +kernel) (by decide) (fun c => ?_) (fun c => ?_)
  · replace h := ite_f c h
    refine v_sub [(0, .ref x0), (1, .ref x1), (2, .int x2), (4, .int x4), (5, .ref x5), (6, .int x6)] [1, 2, 3, 5, 6, 7] rfl ?_
    exact wLa_stepBeyondStages_112 hR hl hk15 x0 x1 x2 x4 x5 x6 S h
  · replace h := ite_t c h
    refine v_iload (pc := 94) (show decode (tC tLa_stepBeyondStages) 94 = .ok (.iload 8, 2) by decide +kernel) 0 rfl ?_
    refine v_if_ne (pc := 96) 112 (show decode (tC tLa_stepBeyondStages) 96 = .ok (.ifCond .ne 16, 3) by decide +kernel) (by decide) (fun c => ?_) (fun c => ?_)
    · replace h := ite_f c h
      refine v_sub [(0, .ref x0), (1, .ref x1), (2, .int x2), (4, .int x4), (5, .ref x5), (6, .int x6)] [1, 2, 3, 5, 6, 7] rfl ?_
      exact wLa_stepBeyondStages_112 hR hl hk15 x0 x1 x2 x4 x5 x6 S h
    · replace h := ite_t c h
      refine v_iload (pc := 99) (show decode (tC tLa_stepBeyondStages) 99 = .ok (.iload 4, 2) by decide +kernel) 5 rfl ?_
      refine v_aload_n (pc := 101) (show decode (tC tLa_stepBeyondStages) 101 = .ok (.aload_n 0, 1) by decide +kernel) 1 rfl rfl ?_
      obtain ⟨v1, e2, h⟩ := ob h
      refine v_getX (pc := 102) oF_La_15 e2 (show decode (tC tLa_stepBeyondStages) 102 = .ok (.getfield 15, 3) by decide +kernel) ?_
      refine v_iload_n (pc := 105) (show decode (tC tLa_stepBeyondStages) 105 = .ok (.iload_n 2, 1) by decide +kernel) 3 rfl rfl ?_
      obtain ⟨v3, e4, h⟩ := ob h
      refine v_iald (pc := 106) e4 (show decode (tC tLa_stepBeyondStages) 106 = .ok (.iaload, 1) by decide +kernel) ?_
      refine v_isub (pc := 107) (show decode (tC tLa_stepBeyondStages) 107 = .ok (.isub, 1) by decide +kernel) ?_
      refine v_iconst (pc := 108) (v := 3) (show decode (tC tLa_stepBeyondStages) 108 = .ok (.iconst 3, 1) by decide +kernel) (by decide) ?_
      refine v_icmp_lt (pc := 109) 134 (show decode (tC tLa_stepBeyondStages) 109 = .ok (.if_icmp .lt 25, 3) by decide +kernel) (by decide) (fun c => ?_) (fun c => ?_)
      · replace h := ite_t c h
        refine v_sub [(0, .ref x0), (1, .ref x1), (2, .int x2), (3, .int x3), (4, .int x4), (5, .ref x5), (6, .int x6)] [1, 2, 3, 4, 5, 6, 7] rfl ?_
        exact wLa_stepBeyondStages_134 hR hl hk15 x0 x1 x2 x3 x4 x5 x6 S h
      · replace h := ite_f c h
        refine v_sub [(0, .ref x0), (1, .ref x1), (2, .int x2), (4, .int x4), (5, .ref x5), (6, .int x6)] [1, 2, 3, 5, 6, 7] rfl ?_
        exact wLa_stepBeyondStages_112 hR hl hk15 x0 x1 x2 x4 x5 x6 S h
def fLa_stepBeyondStages_86 (k15 : Nat → Nat → Int32 → Int32 → Int32 → Sx → Option (Int32 × Sx)) (x0 : Nat) (x1 : Nat) (x2 : Int32) (x3 : Int32) (x4 : Int32) (x5 : Nat) (x6 : Int32) (x7 : Int32) (S : Sx) : Option (Int32 × Sx) :=
    fLa_stepBeyondStages_87 k15 x0 x1 x2 x3 x4 x5 x6 x7 0 S
set_option maxRecDepth 100000 in
set_option maxHeartbeats 4000000 in
theorem wLa_stepBeyondStages_86 {Γ : vG} (hR : gR Γ = rLa_stepBeyondStages) (hl : (gl Γ).flags = pinnedFlags ++ [noTraceFlag]) {X : Int32 × Sx} {k15 : Nat → Nat → Int32 → Int32 → Int32 → Sx → Option (Int32 × Sx)} (hk15 : ∀ (x0 : Nat) (x1 : Nat) (x2 : Int32) (x3 : Int32) (x4 : Int32) (S : Sx), k15 x0 x1 x2 x3 x4 S = some X → vV Γ tLa_stepBeyondStages (mQ Γ 0 0 0 (some (.int X.1)) X.2) S 0 0 15 [(0, .ref x0), (1, .ref x1), (2, .int x2), (3, .int x3), (4, .int x4)] []) : ∀ (x0 : Nat) (x1 : Nat) (x2 : Int32) (x3 : Int32) (x4 : Int32) (x5 : Nat) (x6 : Int32) (x7 : Int32) (S : Sx), fLa_stepBeyondStages_86 k15 x0 x1 x2 x3 x4 x5 x6 x7 S = some X → vV Γ tLa_stepBeyondStages (mQ Γ 0 0 0 (some (.int X.1)) X.2) S 0 0 86 [(0, .ref x0), (1, .ref x1), (2, .int x2), (3, .int x3), (4, .int x4), (5, .ref x5), (6, .int x6), (7, .int x7)] [] := by
  intro x0 x1 x2 x3 x4 x5 x6 x7 S h
  unfold fLa_stepBeyondStages_86 at h
  refine v_iconst (pc := 86) (v := 0) (show decode (tC tLa_stepBeyondStages) 86 = .ok (.iconst 0, 1) by decide +kernel) (by decide) ?_
  exact wLa_stepBeyondStages_87 hR hl hk15 x0 x1 x2 x3 x4 x5 x6 x7 0 S h
def fLa_stepBeyondStages_60 (k15 : Nat → Nat → Int32 → Int32 → Int32 → Sx → Option (Int32 × Sx)) (x0 : Nat) (x1 : Nat) (x2 : Int32) (x3 : Int32) (x4 : Int32) (x5 : Nat) (x6 : Int32) (z0 : Int32) (S : Sx) : Option (Int32 × Sx) :=
    if x4 ≤ 0 then
    (fLa_stepBeyondStages_86 k15 x0 x1 x2 x3 x4 x5 x6 z0 S)
    else
    ((gX S 1 4 x1).bind fun v1 =>
    (aX S 6 v1 (x4 - 1)).bind fun v3 =>
    (ckd S v3 6).bind fun _ =>
    bd2 (fSp_isTest v3 S) fun r7 S8 =>
    if r7 = 0 then
    (fLa_stepBeyondStages_86 k15 x0 x1 x2 x3 x4 x5 x6 z0 S8)
    else
    (fLa_stepBeyondStages_87 k15 x0 x1 x2 x3 x4 x5 x6 z0 1 S8))
set_option maxRecDepth 100000 in
set_option maxHeartbeats 4000000 in
theorem wLa_stepBeyondStages_60 {Γ : vG} (hR : gR Γ = rLa_stepBeyondStages) (hl : (gl Γ).flags = pinnedFlags ++ [noTraceFlag]) {X : Int32 × Sx} {k15 : Nat → Nat → Int32 → Int32 → Int32 → Sx → Option (Int32 × Sx)} (hk15 : ∀ (x0 : Nat) (x1 : Nat) (x2 : Int32) (x3 : Int32) (x4 : Int32) (S : Sx), k15 x0 x1 x2 x3 x4 S = some X → vV Γ tLa_stepBeyondStages (mQ Γ 0 0 0 (some (.int X.1)) X.2) S 0 0 15 [(0, .ref x0), (1, .ref x1), (2, .int x2), (3, .int x3), (4, .int x4)] []) : ∀ (x0 : Nat) (x1 : Nat) (x2 : Int32) (x3 : Int32) (x4 : Int32) (x5 : Nat) (x6 : Int32) (z0 : Int32) (S : Sx), fLa_stepBeyondStages_60 k15 x0 x1 x2 x3 x4 x5 x6 z0 S = some X → vV Γ tLa_stepBeyondStages (mQ Γ 0 0 0 (some (.int X.1)) X.2) S 0 0 60 [(0, .ref x0), (1, .ref x1), (2, .int x2), (3, .int x3), (4, .int x4), (5, .ref x5), (6, .int x6)] [.int z0] := by
  intro x0 x1 x2 x3 x4 x5 x6 z0 S h
  unfold fLa_stepBeyondStages_60 at h
  refine v_istore (pc := 60) [(7, .int z0), (0, .ref x0), (1, .ref x1), (2, .int x2), (3, .int x3), (4, .int x4), (5, .ref x5), (6, .int x6)] (show decode (tC tLa_stepBeyondStages) 60 = .ok (.istore 7, 2) by decide +kernel) (by decide) rfl ?_
  refine v_iload (pc := 62) (show decode (tC tLa_stepBeyondStages) 62 = .ok (.iload 4, 2) by decide +kernel) 5 rfl ?_
  refine v_if_le (pc := 64) 86 (show decode (tC tLa_stepBeyondStages) 64 = .ok (.ifCond .le 22, 3) by decide +kernel) (by decide) (fun c => ?_) (fun c => ?_)
  · replace h := ite_t c h
    refine v_sub [(0, .ref x0), (1, .ref x1), (2, .int x2), (3, .int x3), (4, .int x4), (5, .ref x5), (6, .int x6), (7, .int z0)] [1, 2, 3, 4, 5, 6, 7, 0] rfl ?_
    exact wLa_stepBeyondStages_86 hR hl hk15 x0 x1 x2 x3 x4 x5 x6 z0 S h
  · replace h := ite_f c h
    refine v_aload_n (pc := 67) (show decode (tC tLa_stepBeyondStages) 67 = .ok (.aload_n 1, 1) by decide +kernel) 2 rfl rfl ?_
    obtain ⟨v1, e2, h⟩ := ob h
    refine v_getX (pc := 68) oF_La_94 e2 (show decode (tC tLa_stepBeyondStages) 68 = .ok (.getfield 94, 3) by decide +kernel) ?_
    refine v_iload (pc := 71) (show decode (tC tLa_stepBeyondStages) 71 = .ok (.iload 4, 2) by decide +kernel) 5 rfl ?_
    refine v_iconst (pc := 73) (v := 1) (show decode (tC tLa_stepBeyondStages) 73 = .ok (.iconst 1, 1) by decide +kernel) (by decide) ?_
    refine v_isub (pc := 74) (show decode (tC tLa_stepBeyondStages) 74 = .ok (.isub, 1) by decide +kernel) ?_
    obtain ⟨v3, e4, h⟩ := ob h
    refine v_aald (pc := 75) (kd := 6) rfl e4 (show decode (tC tLa_stepBeyondStages) 75 = .ok (.aaload, 1) by decide +kernel) ?_
    obtain ⟨_, e6, h⟩ := ob h
    obtain ⟨r7, S8, e5, h⟩ := ob2 h
    refine v_call (pc := 76) (v := (some (.int r7))) (y := ySp_isTest) (θ' := tSp_isTest) (rm := rSp_isTest) (av := [.ref v3]) (st := []) (cSp_isTest (l := gl Γ) hl e5) kSp_isTest iSp_isTest (iv_virt (y := ySp_isTest) (θ' := tSp_isTest) (kd := 6) (As := []) rfl (ckd_of e6) kSp_isTest (gT_in 923 (by decide +kernel) rfl) nSp_isTest lSp_isTest mSp_isTest rfl (show decode (tC tLa_stepBeyondStages) 76 = .ok (.invokevirtual 98, 3) by decide +kernel)) ⟨by rw [hR]; decide, by rw [hR]; decide, by rw [hR]; decide, by rw [hR]; decide⟩ (Nat.le_of_ble_eq_true rfl) ?_
    refine v_if_eq (pc := 79) 86 (show decode (tC tLa_stepBeyondStages) 79 = .ok (.ifCond .eq 7, 3) by decide +kernel) (by decide) (fun c => ?_) (fun c => ?_)
    · replace h := ite_t c h
      refine v_sub [(0, .ref x0), (1, .ref x1), (2, .int x2), (3, .int x3), (4, .int x4), (5, .ref x5), (6, .int x6), (7, .int z0)] [1, 2, 3, 4, 5, 6, 7, 0] rfl ?_
      exact wLa_stepBeyondStages_86 hR hl hk15 x0 x1 x2 x3 x4 x5 x6 z0 S8 h
    · replace h := ite_f c h
      refine v_iconst (pc := 82) (v := 1) (show decode (tC tLa_stepBeyondStages) 82 = .ok (.iconst 1, 1) by decide +kernel) (by decide) ?_
      refine v_goto (pc := 83) 87 (show decode (tC tLa_stepBeyondStages) 83 = .ok (.goto 4, 3) by decide +kernel) (by decide) ?_
      refine v_sub [(0, .ref x0), (1, .ref x1), (2, .int x2), (3, .int x3), (4, .int x4), (5, .ref x5), (6, .int x6), (7, .int z0)] [1, 2, 3, 4, 5, 6, 7, 0] rfl ?_
      exact wLa_stepBeyondStages_87 hR hl hk15 x0 x1 x2 x3 x4 x5 x6 z0 1 S8 h
def fLa_stepBeyondStages_15  : Nat → Nat → Nat → Int32 → Int32 → Int32 → Sx → Option (Int32 × Sx)
  | 0, _, _, _, _, _, _ => none
  | n + 1, x0, x1, x2, x3, x4, S =>
    (gI S 1 9 x1).bind fun v1 =>
    if v1 ≤ x4 then
    ((pI S 7 4 x0 (x2 + 1)).bind fun S3 =>
    (gX S3 7 1 x0).bind fun v5 =>
    (gI S3 7 4 x0).bind fun v7 =>
    (gI S3 1 9 x1).bind fun v9 =>
    (qI S3 v5 v7 v9).bind fun S11 =>
    some ((-1), S11))
    else
    ((gX S 1 4 x1).bind fun v13 =>
    (aX S 6 v13 x4).bind fun v15 =>
    (ckd S x1 1).bind fun _ =>
    bd2 (fPr_writesOf x1 v15 S) fun r19 S20 =>
    (ckd S20 x1 1).bind fun _ =>
    bd2 (fPr_readsOf x1 v15 S20) fun r23 S24 =>
    if ((r23 ||| r19) &&& x3) = 0 then
    (fLa_stepBeyondStages_60 (fun y0 y1 y2 y3 y4 T => fLa_stepBeyondStages_15 n y0 y1 y2 y3 y4 T) x0 x1 x2 x3 x4 v15 r19 0 S24)
    else
    (fLa_stepBeyondStages_60 (fun y0 y1 y2 y3 y4 T => fLa_stepBeyondStages_15 n y0 y1 y2 y3 y4 T) x0 x1 x2 x3 x4 v15 r19 1 S24))
set_option maxRecDepth 100000 in
set_option maxHeartbeats 4000000 in
theorem wLa_stepBeyondStages_15 {Γ : vG} (hR : gR Γ = rLa_stepBeyondStages) (hl : (gl Γ).flags = pinnedFlags ++ [noTraceFlag]) {X : Int32 × Sx}  : ∀ (n : Nat) (x0 : Nat) (x1 : Nat) (x2 : Int32) (x3 : Int32) (x4 : Int32) (S : Sx), fLa_stepBeyondStages_15  n x0 x1 x2 x3 x4 S = some X → vV Γ tLa_stepBeyondStages (mQ Γ 0 0 0 (some (.int X.1)) X.2) S 0 0 15 [(0, .ref x0), (1, .ref x1), (2, .int x2), (3, .int x3), (4, .int x4)] [] := by
  intro n
  induction n with
  | zero => intro x0 x1 x2 x3 x4 S h; rw [fLa_stepBeyondStages_15] at h; cases h
  | succ n ih =>
    intro x0 x1 x2 x3 x4 S h
    rw [fLa_stepBeyondStages_15] at h
    refine v_iload (pc := 15) (show decode (tC tLa_stepBeyondStages) 15 = .ok (.iload 4, 2) by decide +kernel) 4 rfl ?_
    refine v_aload_n (pc := 17) (show decode (tC tLa_stepBeyondStages) 17 = .ok (.aload_n 1, 1) by decide +kernel) 1 rfl rfl ?_
    obtain ⟨v1, e2, h⟩ := ob h
    refine v_getI (pc := 18) oF_La_91 (by decide) e2 (show decode (tC tLa_stepBeyondStages) 18 = .ok (.getfield 91, 3) by decide +kernel) ?_
    refine v_icmp_ge (pc := 21) 172 (show decode (tC tLa_stepBeyondStages) 21 = .ok (.if_icmp .ge 151, 3) by decide +kernel) (by decide) (fun c => ?_) (fun c => ?_)
    · replace h := ite_t c h
      refine v_aload_n (pc := 172) (show decode (tC tLa_stepBeyondStages) 172 = .ok (.aload_n 0, 1) by decide +kernel) 0 rfl rfl ?_
      refine v_iload_n (pc := 173) (show decode (tC tLa_stepBeyondStages) 173 = .ok (.iload_n 2, 1) by decide +kernel) 2 rfl rfl ?_
      refine v_iconst (pc := 174) (v := 1) (show decode (tC tLa_stepBeyondStages) 174 = .ok (.iconst 1, 1) by decide +kernel) (by decide) ?_
      refine v_iadd (pc := 175) (show decode (tC tLa_stepBeyondStages) 175 = .ok (.iadd, 1) by decide +kernel) ?_
      obtain ⟨S3, e4, h⟩ := ob h
      refine v_putI (pc := 176) oF_La_126 (fin_ok (kd := 7) (k := 4) (by decide +kernel)) e4 (show decode (tC tLa_stepBeyondStages) 176 = .ok (.putfield 126, 3) by decide +kernel) ?_
      refine v_aload_n (pc := 179) (show decode (tC tLa_stepBeyondStages) 179 = .ok (.aload_n 0, 1) by decide +kernel) 0 rfl rfl ?_
      obtain ⟨v5, e6, h⟩ := ob h
      refine v_getX (pc := 180) oF_La_15 e6 (show decode (tC tLa_stepBeyondStages) 180 = .ok (.getfield 15, 3) by decide +kernel) ?_
      refine v_aload_n (pc := 183) (show decode (tC tLa_stepBeyondStages) 183 = .ok (.aload_n 0, 1) by decide +kernel) 0 rfl rfl ?_
      obtain ⟨v7, e8, h⟩ := ob h
      refine v_getI (pc := 184) oF_La_126 (by decide) e8 (show decode (tC tLa_stepBeyondStages) 184 = .ok (.getfield 126, 3) by decide +kernel) ?_
      refine v_aload_n (pc := 187) (show decode (tC tLa_stepBeyondStages) 187 = .ok (.aload_n 1, 1) by decide +kernel) 1 rfl rfl ?_
      obtain ⟨v9, e10, h⟩ := ob h
      refine v_getI (pc := 188) oF_La_91 (by decide) e10 (show decode (tC tLa_stepBeyondStages) 188 = .ok (.getfield 91, 3) by decide +kernel) ?_
      obtain ⟨S11, e12, h⟩ := ob h
      refine v_iast (pc := 191) e12 (show decode (tC tLa_stepBeyondStages) 191 = .ok (.iastore, 1) by decide +kernel) ?_
      refine v_iconst (pc := 192) (v := (-1)) (show decode (tC tLa_stepBeyondStages) 192 = .ok (.iconst (-1), 1) by decide +kernel) (by decide) ?_
      obtain rfl := Option.some.inj h
      refine v_wide (ce2 := 0) (sl2 := 0) (by decide) (by decide) ?_
      exact v_iret (pc := 193) rfl (show decode (tC tLa_stepBeyondStages) 193 = .ok (.ireturn, 1) by decide +kernel)
    · replace h := ite_f c h
      refine v_aload_n (pc := 24) (show decode (tC tLa_stepBeyondStages) 24 = .ok (.aload_n 1, 1) by decide +kernel) 1 rfl rfl ?_
      obtain ⟨v13, e14, h⟩ := ob h
      refine v_getX (pc := 25) oF_La_94 e14 (show decode (tC tLa_stepBeyondStages) 25 = .ok (.getfield 94, 3) by decide +kernel) ?_
      refine v_iload (pc := 28) (show decode (tC tLa_stepBeyondStages) 28 = .ok (.iload 4, 2) by decide +kernel) 4 rfl ?_
      obtain ⟨v15, e16, h⟩ := ob h
      refine v_aald (pc := 30) (kd := 6) rfl e16 (show decode (tC tLa_stepBeyondStages) 30 = .ok (.aaload, 1) by decide +kernel) ?_
      refine v_astore (pc := 31) [(5, .ref v15), (0, .ref x0), (1, .ref x1), (2, .int x2), (3, .int x3), (4, .int x4)] (show decode (tC tLa_stepBeyondStages) 31 = .ok (.astore 5, 2) by decide +kernel) (by decide) rfl ?_
      refine v_aload_n (pc := 33) (show decode (tC tLa_stepBeyondStages) 33 = .ok (.aload_n 1, 1) by decide +kernel) 2 rfl rfl ?_
      refine v_aload (pc := 34) (show decode (tC tLa_stepBeyondStages) 34 = .ok (.aload 5, 2) by decide +kernel) 0 rfl ?_
      obtain ⟨_, e18, h⟩ := ob h
      obtain ⟨r19, S20, e17, h⟩ := ob2 h
      refine v_call (pc := 36) (v := (some (.int r19))) (y := yPr_writesOf) (θ' := tPr_writesOf) (rm := rPr_writesOf) (av := [.ref x1, .ref v15]) (st := []) (cPr_writesOf (l := gl Γ) hl e17) kPr_writesOf iPr_writesOf (iv_virt (y := yPr_writesOf) (θ' := tPr_writesOf) (kd := 1) (As := [.ref v15]) rfl (ckd_of e18) kPr_writesOf (gT_in 948 (by decide +kernel) rfl) nPr_writesOf lPr_writesOf mPr_writesOf rfl (show decode (tC tLa_stepBeyondStages) 36 = .ok (.invokevirtual 120, 3) by decide +kernel)) ⟨by rw [hR]; decide, by rw [hR]; decide, by rw [hR]; decide, by rw [hR]; decide⟩ (Nat.le_of_ble_eq_true rfl) ?_
      refine v_istore (pc := 39) [(6, .int r19), (5, .ref v15), (0, .ref x0), (1, .ref x1), (2, .int x2), (3, .int x3), (4, .int x4)] (show decode (tC tLa_stepBeyondStages) 39 = .ok (.istore 6, 2) by decide +kernel) (by decide) rfl ?_
      refine v_aload_n (pc := 41) (show decode (tC tLa_stepBeyondStages) 41 = .ok (.aload_n 1, 1) by decide +kernel) 3 rfl rfl ?_
      refine v_aload (pc := 42) (show decode (tC tLa_stepBeyondStages) 42 = .ok (.aload 5, 2) by decide +kernel) 1 rfl ?_
      obtain ⟨_, e22, h⟩ := ob h
      obtain ⟨r23, S24, e21, h⟩ := ob2 h
      refine v_call (pc := 44) (v := (some (.int r23))) (y := yPr_readsOf) (θ' := tPr_readsOf) (rm := rPr_readsOf) (av := [.ref x1, .ref v15]) (st := []) (cPr_readsOf (l := gl Γ) hl e21) kPr_readsOf iPr_readsOf (iv_virt (y := yPr_readsOf) (θ' := tPr_readsOf) (kd := 1) (As := [.ref v15]) rfl (ckd_of e22) kPr_readsOf (gT_in 958 (by decide +kernel) rfl) nPr_readsOf lPr_readsOf mPr_readsOf rfl (show decode (tC tLa_stepBeyondStages) 44 = .ok (.invokevirtual 123, 3) by decide +kernel)) ⟨by rw [hR]; decide, by rw [hR]; decide, by rw [hR]; decide, by rw [hR]; decide⟩ (Nat.le_of_ble_eq_true rfl) ?_
      refine v_iload (pc := 47) (show decode (tC tLa_stepBeyondStages) 47 = .ok (.iload 6, 2) by decide +kernel) 0 rfl ?_
      refine v_ior (pc := 49) (show decode (tC tLa_stepBeyondStages) 49 = .ok (.ior, 1) by decide +kernel) ?_
      refine v_iload_n (pc := 50) (show decode (tC tLa_stepBeyondStages) 50 = .ok (.iload_n 3, 1) by decide +kernel) 5 rfl rfl ?_
      refine v_iand (pc := 51) (show decode (tC tLa_stepBeyondStages) 51 = .ok (.iand, 1) by decide +kernel) ?_
      refine v_if_eq (pc := 52) 59 (show decode (tC tLa_stepBeyondStages) 52 = .ok (.ifCond .eq 7, 3) by decide +kernel) (by decide) (fun c => ?_) (fun c => ?_)
      · replace h := ite_t c h
        refine v_iconst (pc := 59) (v := 0) (show decode (tC tLa_stepBeyondStages) 59 = .ok (.iconst 0, 1) by decide +kernel) (by decide) ?_
        refine v_sub [(0, .ref x0), (1, .ref x1), (2, .int x2), (3, .int x3), (4, .int x4), (5, .ref v15), (6, .int r19)] [2, 3, 4, 5, 6, 1, 0] rfl ?_
        exact wLa_stepBeyondStages_60 hR hl (fun y0 y1 y2 y3 y4 T h => ih y0 y1 y2 y3 y4 T h) x0 x1 x2 x3 x4 v15 r19 0 S24 h
      · replace h := ite_f c h
        refine v_iconst (pc := 55) (v := 1) (show decode (tC tLa_stepBeyondStages) 55 = .ok (.iconst 1, 1) by decide +kernel) (by decide) ?_
        refine v_goto (pc := 56) 60 (show decode (tC tLa_stepBeyondStages) 56 = .ok (.goto 4, 3) by decide +kernel) (by decide) ?_
        refine v_sub [(0, .ref x0), (1, .ref x1), (2, .int x2), (3, .int x3), (4, .int x4), (5, .ref v15), (6, .int r19)] [2, 3, 4, 5, 6, 1, 0] rfl ?_
        exact wLa_stepBeyondStages_60 hR hl (fun y0 y1 y2 y3 y4 T h => ih y0 y1 y2 y3 y4 T h) x0 x1 x2 x3 x4 v15 r19 1 S24 h
def fLa_stepBeyondStages (x0 : Nat) (x1 : Nat) (S : Sx) : Option (Int32 × Sx) :=
    (gX S 7 2 x0).bind fun v1 =>
    (fJA_fill v1 0 S).bind fun S4 =>
    fLa_stepBeyondStages_15  fuel x0 x1 0 0 0 S4
set_option maxRecDepth 100000 in
set_option maxHeartbeats 4000000 in
theorem wLa_stepBeyondStages {Γ : vG} (hR : gR Γ = rLa_stepBeyondStages) (hl : (gl Γ).flags = pinnedFlags ++ [noTraceFlag]) (x0 : Nat) (x1 : Nat) (S : Sx) {X : Int32 × Sx} (h : fLa_stepBeyondStages x0 x1 S = some X) : vV Γ tLa_stepBeyondStages (mQ Γ 0 0 0 (some (.int X.1)) X.2) S 0 0 0 [(0, .ref x0), (1, .ref x1)] [] := by
  unfold fLa_stepBeyondStages at h
  refine v_iconst (pc := 0) (v := 0) (show decode (tC tLa_stepBeyondStages) 0 = .ok (.iconst 0, 1) by decide +kernel) (by decide) ?_
  refine v_istore_n (pc := 1) [(2, .int 0), (0, .ref x0), (1, .ref x1)] (show decode (tC tLa_stepBeyondStages) 1 = .ok (.istore_n 2, 1) by decide +kernel) rfl (by decide) rfl ?_
  refine v_iconst (pc := 2) (v := 0) (show decode (tC tLa_stepBeyondStages) 2 = .ok (.iconst 0, 1) by decide +kernel) (by decide) ?_
  refine v_istore_n (pc := 3) [(3, .int 0), (2, .int 0), (0, .ref x0), (1, .ref x1)] (show decode (tC tLa_stepBeyondStages) 3 = .ok (.istore_n 3, 1) by decide +kernel) rfl (by decide) rfl ?_
  refine v_aload_n (pc := 4) (show decode (tC tLa_stepBeyondStages) 4 = .ok (.aload_n 0, 1) by decide +kernel) 2 rfl rfl ?_
  obtain ⟨v1, e2, h⟩ := ob h
  refine v_getX (pc := 5) oF_La_18 e2 (show decode (tC tLa_stepBeyondStages) 5 = .ok (.getfield 18, 3) by decide +kernel) ?_
  refine v_iconst (pc := 8) (v := 0) (show decode (tC tLa_stepBeyondStages) 8 = .ok (.iconst 0, 1) by decide +kernel) (by decide) ?_
  obtain ⟨S4, e3, h⟩ := ob h
  refine v_call (pc := 9) (v := none) (y := yJA_fill) (θ' := tJA_fill) (rm := rJA_fill) (av := [.ref v1, .int 0]) (st := []) (cJA_fill (l := gl Γ) hl e3) kJA_fill iJA_fill (iv_static (y := yJA_fill) (θ' := tJA_fill) (n := 2) (As := [.ref v1, .int 0]) kJA_fill (gT_in 947 (by decide +kernel) rfl) sJA_fill iJA_fill mJA_fill rfl (show decode (tC tLa_stepBeyondStages) 9 = .ok (.invokestatic 114, 3) by decide +kernel)) ⟨by rw [hR]; decide, by rw [hR]; decide, by rw [hR]; decide, by rw [hR]; decide⟩ (Nat.le_of_ble_eq_true rfl) ?_
  refine v_iconst (pc := 12) (v := 0) (show decode (tC tLa_stepBeyondStages) 12 = .ok (.iconst 0, 1) by decide +kernel) (by decide) ?_
  refine v_istore (pc := 13) [(4, .int 0), (3, .int 0), (2, .int 0), (0, .ref x0), (1, .ref x1)] (show decode (tC tLa_stepBeyondStages) 13 = .ok (.istore 4, 2) by decide +kernel) (by decide) rfl ?_
  refine v_sub [(0, .ref x0), (1, .ref x1), (2, .int 0), (3, .int 0), (4, .int 0)] [3, 4, 2, 1, 0] rfl ?_
  exact wLa_stepBeyondStages_15 hR hl  fuel x0 x1 0 0 0 S4 h
theorem cLa_stepBeyondStages {l : Launch} (hl : l.flags = pinnedFlags ++ [noTraceFlag]) {D : va_G} {dA : Nat → ClassId} {B : Nat} {x0 : Nat} {x1 : Nat} {S : Sx} {X : Int32 × Sx} (h : fLa_stepBeyondStages x0 x1 S = some X) : Mx l yLa_stepBeyondStages tLa_stepBeyondStages rLa_stepBeyondStages 0 0 D dA B S [.ref x0, .ref x1] 0 (some (.int X.1)) X.2 :=
  mx_of hl (by decide) rfl rfl (Nat.le_of_ble_eq_true rfl) (fun Γ e1 e2 e3 e4 e5 => by subst e1; subst e3; subst e4; subst e5; exact wLa_stepBeyondStages e2 hl x0 x1 S h)
/-! MatchPipe$Layout.testWithoutLater(LMatchPipe$Program;)I -/
def yLa_testWithoutLater : MethodName := ⟨"MatchPipe$Layout", "testWithoutLater", "(LMatchPipe$Program;)I"⟩
def tLa_testWithoutLater : tM := (prog_6_method_9_code, "MatchPipe$Layout", 3, "testWithoutLater", some .int, [])
def rLa_testWithoutLater : Room := { frames := 1, cells := 0, slots := 0, locals := 20 }
theorem kLa_testWithoutLater : cOf yLa_testWithoutLater tLa_testWithoutLater ∈ gT := gT_in 922 (by decide +kernel) rfl
theorem iLa_testWithoutLater : Cond.initialized yLa_testWithoutLater.cls ∈ gT := gT_in 63 (by decide +kernel) rfl
theorem mLa_testWithoutLater : okM yLa_testWithoutLater 1 := ⟨by decide, by decide, by unfold nPar; decide +kernel⟩
theorem sLa_testWithoutLater : Cond.static yLa_testWithoutLater ∈ gT := gT_in 921 (by decide +kernel) rfl
def fLa_testWithoutLater_2  : Nat → Nat → Int32 → Sx → Option (Int32 × Sx)
  | 0, _, _, _ => none
  | n + 1, x0, x1, S =>
    (gI S 1 9 x0).bind fun v1 =>
    if v1 ≤ x1 then
    (some ((-1), S))
    else
    ((gX S 1 4 x0).bind fun v3 =>
    (aX S 6 v3 x1).bind fun v5 =>
    (ckd S v5 6).bind fun _ =>
    bd2 (fSp_isTest v5 S) fun r9 S10 =>
    if r9 = 0 then
    (fLa_testWithoutLater_2 n x0 (x1 + 1) S10)
    else
    ((gI S10 6 4 v5).bind fun v11 =>
    if v11 ≤ x1 then
    (some (x1, S10))
    else
    ((gI S10 6 4 v5).bind fun v13 =>
    (gI S10 1 9 x0).bind fun v15 =>
    if v13 ≤ v15 then
    (fLa_testWithoutLater_2 n x0 (x1 + 1) S10)
    else
    (some (x1, S10)))))
set_option maxRecDepth 100000 in
set_option maxHeartbeats 4000000 in
theorem wLa_testWithoutLater_2 {Γ : vG} (hR : gR Γ = rLa_testWithoutLater) (hl : (gl Γ).flags = pinnedFlags ++ [noTraceFlag]) {X : Int32 × Sx}  : ∀ (n : Nat) (x0 : Nat) (x1 : Int32) (S : Sx), fLa_testWithoutLater_2  n x0 x1 S = some X → vV Γ tLa_testWithoutLater (mQ Γ 0 0 0 (some (.int X.1)) X.2) S 0 0 2 [(0, .ref x0), (1, .int x1)] [] := by
  intro n
  induction n with
  | zero => intro x0 x1 S h; rw [fLa_testWithoutLater_2] at h; cases h
  | succ n ih =>
    intro x0 x1 S h
    rw [fLa_testWithoutLater_2] at h
    refine v_iload_n (pc := 2) (show decode (tC tLa_testWithoutLater) 2 = .ok (.iload_n 1, 1) by decide +kernel) 1 rfl rfl ?_
    refine v_aload_n (pc := 3) (show decode (tC tLa_testWithoutLater) 3 = .ok (.aload_n 0, 1) by decide +kernel) 0 rfl rfl ?_
    obtain ⟨v1, e2, h⟩ := ob h
    refine v_getI (pc := 4) oF_La_91 (by decide) e2 (show decode (tC tLa_testWithoutLater) 4 = .ok (.getfield 91, 3) by decide +kernel) ?_
    refine v_icmp_ge (pc := 7) 51 (show decode (tC tLa_testWithoutLater) 7 = .ok (.if_icmp .ge 44, 3) by decide +kernel) (by decide) (fun c => ?_) (fun c => ?_)
    · replace h := ite_t c h
      refine v_iconst (pc := 51) (v := (-1)) (show decode (tC tLa_testWithoutLater) 51 = .ok (.iconst (-1), 1) by decide +kernel) (by decide) ?_
      obtain rfl := Option.some.inj h
      refine v_wide (ce2 := 0) (sl2 := 0) (by decide) (by decide) ?_
      exact v_iret (pc := 52) rfl (show decode (tC tLa_testWithoutLater) 52 = .ok (.ireturn, 1) by decide +kernel)
    · replace h := ite_f c h
      refine v_aload_n (pc := 10) (show decode (tC tLa_testWithoutLater) 10 = .ok (.aload_n 0, 1) by decide +kernel) 0 rfl rfl ?_
      obtain ⟨v3, e4, h⟩ := ob h
      refine v_getX (pc := 11) oF_La_94 e4 (show decode (tC tLa_testWithoutLater) 11 = .ok (.getfield 94, 3) by decide +kernel) ?_
      refine v_iload_n (pc := 14) (show decode (tC tLa_testWithoutLater) 14 = .ok (.iload_n 1, 1) by decide +kernel) 1 rfl rfl ?_
      obtain ⟨v5, e6, h⟩ := ob h
      refine v_aald (pc := 15) (kd := 6) rfl e6 (show decode (tC tLa_testWithoutLater) 15 = .ok (.aaload, 1) by decide +kernel) ?_
      refine v_astore_n (pc := 16) [(2, .ref v5), (0, .ref x0), (1, .int x1)] (show decode (tC tLa_testWithoutLater) 16 = .ok (.astore_n 2, 1) by decide +kernel) rfl (by decide) rfl ?_
      refine v_aload_n (pc := 17) (show decode (tC tLa_testWithoutLater) 17 = .ok (.aload_n 2, 1) by decide +kernel) 0 rfl rfl ?_
      obtain ⟨_, e8, h⟩ := ob h
      obtain ⟨r9, S10, e7, h⟩ := ob2 h
      refine v_call (pc := 18) (v := (some (.int r9))) (y := ySp_isTest) (θ' := tSp_isTest) (rm := rSp_isTest) (av := [.ref v5]) (st := []) (cSp_isTest (l := gl Γ) hl e7) kSp_isTest iSp_isTest (iv_virt (y := ySp_isTest) (θ' := tSp_isTest) (kd := 6) (As := []) rfl (ckd_of e8) kSp_isTest (gT_in 923 (by decide +kernel) rfl) nSp_isTest lSp_isTest mSp_isTest rfl (show decode (tC tLa_testWithoutLater) 18 = .ok (.invokevirtual 98, 3) by decide +kernel)) ⟨by rw [hR]; decide, by rw [hR]; decide, by rw [hR]; decide, by rw [hR]; decide⟩ (Nat.le_of_ble_eq_true rfl) ?_
      refine v_if_eq (pc := 21) 45 (show decode (tC tLa_testWithoutLater) 21 = .ok (.ifCond .eq 24, 3) by decide +kernel) (by decide) (fun c => ?_) (fun c => ?_)
      · replace h := ite_t c h
        refine v_iinc (pc := 45) (j := 2) [(1, .int (x1 + 1)), (2, .ref v5), (0, .ref x0)] (show decode (tC tLa_testWithoutLater) 45 = .ok (.iinc 1 1, 3) by decide +kernel) rfl rfl (by decide) rfl ?_
        refine v_goto (pc := 48) 2 (show decode (tC tLa_testWithoutLater) 48 = .ok (.goto (-46), 3) by decide +kernel) (by decide) ?_
        refine v_sub [(0, .ref x0), (1, .int (x1 + 1))] [2, 0] rfl ?_
        exact ih x0 (x1 + 1) S10 h
      · replace h := ite_f c h
        refine v_aload_n (pc := 24) (show decode (tC tLa_testWithoutLater) 24 = .ok (.aload_n 2, 1) by decide +kernel) 0 rfl rfl ?_
        obtain ⟨v11, e12, h⟩ := ob h
        refine v_getI (pc := 25) oF_La_104 (by decide) e12 (show decode (tC tLa_testWithoutLater) 25 = .ok (.getfield 104, 3) by decide +kernel) ?_
        refine v_iload_n (pc := 28) (show decode (tC tLa_testWithoutLater) 28 = .ok (.iload_n 1, 1) by decide +kernel) 2 rfl rfl ?_
        refine v_icmp_le (pc := 29) 43 (show decode (tC tLa_testWithoutLater) 29 = .ok (.if_icmp .le 14, 3) by decide +kernel) (by decide) (fun c => ?_) (fun c => ?_)
        · replace h := ite_t c h
          refine v_iload_n (pc := 43) (show decode (tC tLa_testWithoutLater) 43 = .ok (.iload_n 1, 1) by decide +kernel) 2 rfl rfl ?_
          obtain rfl := Option.some.inj h
          refine v_wide (ce2 := 0) (sl2 := 0) (by decide) (by decide) ?_
          exact v_iret (pc := 44) rfl (show decode (tC tLa_testWithoutLater) 44 = .ok (.ireturn, 1) by decide +kernel)
        · replace h := ite_f c h
          refine v_aload_n (pc := 32) (show decode (tC tLa_testWithoutLater) 32 = .ok (.aload_n 2, 1) by decide +kernel) 0 rfl rfl ?_
          obtain ⟨v13, e14, h⟩ := ob h
          refine v_getI (pc := 33) oF_La_104 (by decide) e14 (show decode (tC tLa_testWithoutLater) 33 = .ok (.getfield 104, 3) by decide +kernel) ?_
          refine v_aload_n (pc := 36) (show decode (tC tLa_testWithoutLater) 36 = .ok (.aload_n 0, 1) by decide +kernel) 1 rfl rfl ?_
          obtain ⟨v15, e16, h⟩ := ob h
          refine v_getI (pc := 37) oF_La_91 (by decide) e16 (show decode (tC tLa_testWithoutLater) 37 = .ok (.getfield 91, 3) by decide +kernel) ?_
          refine v_icmp_le (pc := 40) 45 (show decode (tC tLa_testWithoutLater) 40 = .ok (.if_icmp .le 5, 3) by decide +kernel) (by decide) (fun c => ?_) (fun c => ?_)
          · replace h := ite_t c h
            refine v_iinc (pc := 45) (j := 2) [(1, .int (x1 + 1)), (2, .ref v5), (0, .ref x0)] (show decode (tC tLa_testWithoutLater) 45 = .ok (.iinc 1 1, 3) by decide +kernel) rfl rfl (by decide) rfl ?_
            refine v_goto (pc := 48) 2 (show decode (tC tLa_testWithoutLater) 48 = .ok (.goto (-46), 3) by decide +kernel) (by decide) ?_
            refine v_sub [(0, .ref x0), (1, .int (x1 + 1))] [2, 0] rfl ?_
            exact ih x0 (x1 + 1) S10 h
          · replace h := ite_f c h
            refine v_iload_n (pc := 43) (show decode (tC tLa_testWithoutLater) 43 = .ok (.iload_n 1, 1) by decide +kernel) 2 rfl rfl ?_
            obtain rfl := Option.some.inj h
            refine v_wide (ce2 := 0) (sl2 := 0) (by decide) (by decide) ?_
            exact v_iret (pc := 44) rfl (show decode (tC tLa_testWithoutLater) 44 = .ok (.ireturn, 1) by decide +kernel)
def fLa_testWithoutLater (x0 : Nat) (S : Sx) : Option (Int32 × Sx) :=
    fLa_testWithoutLater_2  fuel x0 0 S
set_option maxRecDepth 100000 in
set_option maxHeartbeats 4000000 in
theorem wLa_testWithoutLater {Γ : vG} (hR : gR Γ = rLa_testWithoutLater) (hl : (gl Γ).flags = pinnedFlags ++ [noTraceFlag]) (x0 : Nat) (S : Sx) {X : Int32 × Sx} (h : fLa_testWithoutLater x0 S = some X) : vV Γ tLa_testWithoutLater (mQ Γ 0 0 0 (some (.int X.1)) X.2) S 0 0 0 [(0, .ref x0)] [] := by
  unfold fLa_testWithoutLater at h
  refine v_iconst (pc := 0) (v := 0) (show decode (tC tLa_testWithoutLater) 0 = .ok (.iconst 0, 1) by decide +kernel) (by decide) ?_
  refine v_istore_n (pc := 1) [(1, .int 0), (0, .ref x0)] (show decode (tC tLa_testWithoutLater) 1 = .ok (.istore_n 1, 1) by decide +kernel) rfl (by decide) rfl ?_
  refine v_sub [(0, .ref x0), (1, .int 0)] [1, 0] rfl ?_
  exact wLa_testWithoutLater_2 hR hl  fuel x0 0 S h
theorem cLa_testWithoutLater {l : Launch} (hl : l.flags = pinnedFlags ++ [noTraceFlag]) {D : va_G} {dA : Nat → ClassId} {B : Nat} {x0 : Nat} {S : Sx} {X : Int32 × Sx} (h : fLa_testWithoutLater x0 S = some X) : Mx l yLa_testWithoutLater tLa_testWithoutLater rLa_testWithoutLater 0 0 D dA B S [.ref x0] 0 (some (.int X.1)) X.2 :=
  mx_of hl (by decide) rfl rfl (Nat.le_of_ble_eq_true rfl) (fun Γ e1 e2 e3 e4 e5 => by subst e1; subst e3; subst e4; subst e5; exact wLa_testWithoutLater e2 hl x0 S h)
/-! MatchPipe$Layout.placeOfFault(ILMatchPipe$Program;)I -/
def yLa_placeOfFault : MethodName := ⟨"MatchPipe$Layout", "placeOfFault", "(ILMatchPipe$Program;)I"⟩
def tLa_placeOfFault : tM := (prog_6_method_4_code, "MatchPipe$Layout", 3, "placeOfFault", some .int, [])
def rLa_placeOfFault : Room := { frames := 4, cells := 0, slots := 0, locals := 87 }
theorem kLa_placeOfFault : cOf yLa_placeOfFault tLa_placeOfFault ∈ gT := gT_in 898 (by decide +kernel) rfl
theorem iLa_placeOfFault : Cond.initialized yLa_placeOfFault.cls ∈ gT := gT_in 63 (by decide +kernel) rfl
theorem mLa_placeOfFault : okM yLa_placeOfFault 2 := ⟨by decide, by decide, by unfold nPar; decide +kernel⟩
theorem nLa_placeOfFault : Cond.instanceMethod yLa_placeOfFault ∈ gT := gT_in 897 (by decide +kernel) rfl
theorem lLa_placeOfFault : Cond.selects "MatchPipe$Layout" yLa_placeOfFault yLa_placeOfFault ∈ gT := gT_in 8 (by decide +kernel) rfl
def fLa_placeOfFault (x0 : Nat) (x1 : Int32) (x2 : Nat) (S : Sx) : Option (Int32 × Sx) :=
    if x1 = 1 then
    (bd2 (fLa_missingState x2 S) fun r2 S3 =>
    some (r2, S3))
    else if x1 = 2 then
    (bd2 (fLa_emptyRound x2 S) fun r5 S6 =>
    some (r5, S6))
    else if x1 = 3 then
    (bd2 (fLa_testWithoutLater x2 S) fun r8 S9 =>
    some (r8, S9))
    else if x1 = 4 then
    (bd2 (fLa_secondApply x2 S) fun r11 S12 =>
    some (r11, S12))
    else if x1 = 5 then
    (bd2 (fLa_sharedArray x2 S) fun r14 S15 =>
    some (r14, S15))
    else 
    ((ckd S x0 7).bind fun _ =>
    bd2 (fLa_stepBeyondStages x0 x2 S) fun r18 S19 =>
    some (r18, S19))
set_option maxRecDepth 100000 in
set_option maxHeartbeats 4000000 in
theorem wLa_placeOfFault {Γ : vG} (hR : gR Γ = rLa_placeOfFault) (hl : (gl Γ).flags = pinnedFlags ++ [noTraceFlag]) (x0 : Nat) (x1 : Int32) (x2 : Nat) (S : Sx) {X : Int32 × Sx} (h : fLa_placeOfFault x0 x1 x2 S = some X) : vV Γ tLa_placeOfFault (mQ Γ 0 0 0 (some (.int X.1)) X.2) S 0 0 0 [(0, .ref x0), (1, .int x1), (2, .ref x2)] [] := by
  unfold fLa_placeOfFault at h
  refine v_iload_n (pc := 0) (show decode (tC tLa_placeOfFault) 0 = .ok (.iload_n 1, 1) by decide +kernel) 1 rfl rfl ?_
  by_cases c0 : x1 = 1
  · replace h := ite_t c0 h
    refine v_tblIn (pc := 1) (off := 35) 36 (show decode (tC tLa_placeOfFault) 1 = .ok (.tableswitch 60 1 5 #[35, 40, 45, 50, 55], 35) by decide +kernel) (by rw [c0]; decide) (by rw [c0]; decide) (by rw [c0]; decide) (by decide) ?_
    refine v_aload_n (pc := 36) (show decode (tC tLa_placeOfFault) 36 = .ok (.aload_n 2, 1) by decide +kernel) 2 rfl rfl ?_
    obtain ⟨r2, S3, e1, h⟩ := ob2 h
    refine v_call (pc := 37) (v := (some (.int r2))) (y := yLa_missingState) (θ' := tLa_missingState) (rm := rLa_missingState) (av := [.ref x2]) (st := []) (cLa_missingState (l := gl Γ) hl e1) kLa_missingState iLa_missingState (iv_static (y := yLa_missingState) (θ' := tLa_missingState) (n := 1) (As := [.ref x2]) kLa_missingState (gT_in 899 (by decide +kernel) rfl) sLa_missingState iLa_missingState mLa_missingState rfl (show decode (tC tLa_placeOfFault) 37 = .ok (.invokestatic 39, 3) by decide +kernel)) ⟨by rw [hR]; decide, by rw [hR]; decide, by rw [hR]; decide, by rw [hR]; decide⟩ (Nat.le_of_ble_eq_true rfl) ?_
    obtain rfl := Option.some.inj h
    refine v_wide (ce2 := 0) (sl2 := 0) (by decide) (by decide) ?_
    exact v_iret (pc := 40) rfl (show decode (tC tLa_placeOfFault) 40 = .ok (.ireturn, 1) by decide +kernel)
  · replace h := ite_f c0 h
    by_cases c1 : x1 = 2
    · replace h := ite_t c1 h
      refine v_tblIn (pc := 1) (off := 40) 41 (show decode (tC tLa_placeOfFault) 1 = .ok (.tableswitch 60 1 5 #[35, 40, 45, 50, 55], 35) by decide +kernel) (by rw [c1]; decide) (by rw [c1]; decide) (by rw [c1]; decide) (by decide) ?_
      refine v_aload_n (pc := 41) (show decode (tC tLa_placeOfFault) 41 = .ok (.aload_n 2, 1) by decide +kernel) 2 rfl rfl ?_
      obtain ⟨r5, S6, e4, h⟩ := ob2 h
      refine v_call (pc := 42) (v := (some (.int r5))) (y := yLa_emptyRound) (θ' := tLa_emptyRound) (rm := rLa_emptyRound) (av := [.ref x2]) (st := []) (cLa_emptyRound (l := gl Γ) hl e4) kLa_emptyRound iLa_emptyRound (iv_static (y := yLa_emptyRound) (θ' := tLa_emptyRound) (n := 1) (As := [.ref x2]) kLa_emptyRound (gT_in 906 (by decide +kernel) rfl) sLa_emptyRound iLa_emptyRound mLa_emptyRound rfl (show decode (tC tLa_placeOfFault) 42 = .ok (.invokestatic 43, 3) by decide +kernel)) ⟨by rw [hR]; decide, by rw [hR]; decide, by rw [hR]; decide, by rw [hR]; decide⟩ (Nat.le_of_ble_eq_true rfl) ?_
      obtain rfl := Option.some.inj h
      refine v_wide (ce2 := 0) (sl2 := 0) (by decide) (by decide) ?_
      exact v_iret (pc := 45) rfl (show decode (tC tLa_placeOfFault) 45 = .ok (.ireturn, 1) by decide +kernel)
    · replace h := ite_f c1 h
      by_cases c2 : x1 = 3
      · replace h := ite_t c2 h
        refine v_tblIn (pc := 1) (off := 45) 46 (show decode (tC tLa_placeOfFault) 1 = .ok (.tableswitch 60 1 5 #[35, 40, 45, 50, 55], 35) by decide +kernel) (by rw [c2]; decide) (by rw [c2]; decide) (by rw [c2]; decide) (by decide) ?_
        refine v_aload_n (pc := 46) (show decode (tC tLa_placeOfFault) 46 = .ok (.aload_n 2, 1) by decide +kernel) 2 rfl rfl ?_
        obtain ⟨r8, S9, e7, h⟩ := ob2 h
        refine v_call (pc := 47) (v := (some (.int r8))) (y := yLa_testWithoutLater) (θ' := tLa_testWithoutLater) (rm := rLa_testWithoutLater) (av := [.ref x2]) (st := []) (cLa_testWithoutLater (l := gl Γ) hl e7) kLa_testWithoutLater iLa_testWithoutLater (iv_static (y := yLa_testWithoutLater) (θ' := tLa_testWithoutLater) (n := 1) (As := [.ref x2]) kLa_testWithoutLater (gT_in 920 (by decide +kernel) rfl) sLa_testWithoutLater iLa_testWithoutLater mLa_testWithoutLater rfl (show decode (tC tLa_placeOfFault) 47 = .ok (.invokestatic 46, 3) by decide +kernel)) ⟨by rw [hR]; decide, by rw [hR]; decide, by rw [hR]; decide, by rw [hR]; decide⟩ (Nat.le_of_ble_eq_true rfl) ?_
        obtain rfl := Option.some.inj h
        refine v_wide (ce2 := 0) (sl2 := 0) (by decide) (by decide) ?_
        exact v_iret (pc := 50) rfl (show decode (tC tLa_placeOfFault) 50 = .ok (.ireturn, 1) by decide +kernel)
      · replace h := ite_f c2 h
        by_cases c3 : x1 = 4
        · replace h := ite_t c3 h
          refine v_tblIn (pc := 1) (off := 50) 51 (show decode (tC tLa_placeOfFault) 1 = .ok (.tableswitch 60 1 5 #[35, 40, 45, 50, 55], 35) by decide +kernel) (by rw [c3]; decide) (by rw [c3]; decide) (by rw [c3]; decide) (by decide) ?_
          refine v_aload_n (pc := 51) (show decode (tC tLa_placeOfFault) 51 = .ok (.aload_n 2, 1) by decide +kernel) 2 rfl rfl ?_
          obtain ⟨r11, S12, e10, h⟩ := ob2 h
          refine v_call (pc := 52) (v := (some (.int r11))) (y := yLa_secondApply) (θ' := tLa_secondApply) (rm := rLa_secondApply) (av := [.ref x2]) (st := []) (cLa_secondApply (l := gl Γ) hl e10) kLa_secondApply iLa_secondApply (iv_static (y := yLa_secondApply) (θ' := tLa_secondApply) (n := 1) (As := [.ref x2]) kLa_secondApply (gT_in 927 (by decide +kernel) rfl) sLa_secondApply iLa_secondApply mLa_secondApply rfl (show decode (tC tLa_placeOfFault) 52 = .ok (.invokestatic 49, 3) by decide +kernel)) ⟨by rw [hR]; decide, by rw [hR]; decide, by rw [hR]; decide, by rw [hR]; decide⟩ (Nat.le_of_ble_eq_true rfl) ?_
          obtain rfl := Option.some.inj h
          refine v_wide (ce2 := 0) (sl2 := 0) (by decide) (by decide) ?_
          exact v_iret (pc := 55) rfl (show decode (tC tLa_placeOfFault) 55 = .ok (.ireturn, 1) by decide +kernel)
        · replace h := ite_f c3 h
          by_cases c4 : x1 = 5
          · replace h := ite_t c4 h
            refine v_tblIn (pc := 1) (off := 55) 56 (show decode (tC tLa_placeOfFault) 1 = .ok (.tableswitch 60 1 5 #[35, 40, 45, 50, 55], 35) by decide +kernel) (by rw [c4]; decide) (by rw [c4]; decide) (by rw [c4]; decide) (by decide) ?_
            refine v_aload_n (pc := 56) (show decode (tC tLa_placeOfFault) 56 = .ok (.aload_n 2, 1) by decide +kernel) 2 rfl rfl ?_
            obtain ⟨r14, S15, e13, h⟩ := ob2 h
            refine v_call (pc := 57) (v := (some (.int r14))) (y := yLa_sharedArray) (θ' := tLa_sharedArray) (rm := rLa_sharedArray) (av := [.ref x2]) (st := []) (cLa_sharedArray (l := gl Γ) hl e13) kLa_sharedArray iLa_sharedArray (iv_static (y := yLa_sharedArray) (θ' := tLa_sharedArray) (n := 1) (As := [.ref x2]) kLa_sharedArray (gT_in 930 (by decide +kernel) rfl) sLa_sharedArray iLa_sharedArray mLa_sharedArray rfl (show decode (tC tLa_placeOfFault) 57 = .ok (.invokestatic 52, 3) by decide +kernel)) ⟨by rw [hR]; decide, by rw [hR]; decide, by rw [hR]; decide, by rw [hR]; decide⟩ (Nat.le_of_ble_eq_true rfl) ?_
            obtain rfl := Option.some.inj h
            refine v_wide (ce2 := 0) (sl2 := 0) (by decide) (by decide) ?_
            exact v_iret (pc := 60) rfl (show decode (tC tLa_placeOfFault) 60 = .ok (.ireturn, 1) by decide +kernel)
          · replace h := ite_f c4 h
            refine v_tblOut (pc := 1) 61 (show decode (tC tLa_placeOfFault) 1 = .ok (.tableswitch 60 1 5 #[35, 40, 45, 50, 55], 35) by decide +kernel) (tbl_out 5 (fun i hi => match i, hi with | 0, _ => by have := toInt_ne c0; exact this | 1, _ => by have := toInt_ne c1; exact this | 2, _ => by have := toInt_ne c2; exact this | 3, _ => by have := toInt_ne c3; exact this | 4, _ => by have := toInt_ne c4; exact this | i + 5, hi => absurd hi (by omega)) (by decide)) (by decide) ?_
            refine v_aload_n (pc := 61) (show decode (tC tLa_placeOfFault) 61 = .ok (.aload_n 0, 1) by decide +kernel) 0 rfl rfl ?_
            refine v_aload_n (pc := 62) (show decode (tC tLa_placeOfFault) 62 = .ok (.aload_n 2, 1) by decide +kernel) 2 rfl rfl ?_
            obtain ⟨_, e17, h⟩ := ob h
            obtain ⟨r18, S19, e16, h⟩ := ob2 h
            refine v_call (pc := 63) (v := (some (.int r18))) (y := yLa_stepBeyondStages) (θ' := tLa_stepBeyondStages) (rm := rLa_stepBeyondStages) (av := [.ref x0, .ref x2]) (st := []) (cLa_stepBeyondStages (l := gl Γ) hl e16) kLa_stepBeyondStages iLa_stepBeyondStages (iv_virt (y := yLa_stepBeyondStages) (θ' := tLa_stepBeyondStages) (kd := 7) (As := [.ref x2]) rfl (ckd_of e17) kLa_stepBeyondStages (gT_in 943 (by decide +kernel) rfl) nLa_stepBeyondStages lLa_stepBeyondStages mLa_stepBeyondStages rfl (show decode (tC tLa_placeOfFault) 63 = .ok (.invokevirtual 55, 3) by decide +kernel)) ⟨by rw [hR]; decide, by rw [hR]; decide, by rw [hR]; decide, by rw [hR]; decide⟩ (Nat.le_of_ble_eq_true rfl) ?_
            obtain rfl := Option.some.inj h
            refine v_wide (ce2 := 0) (sl2 := 0) (by decide) (by decide) ?_
            exact v_iret (pc := 66) rfl (show decode (tC tLa_placeOfFault) 66 = .ok (.ireturn, 1) by decide +kernel)
theorem cLa_placeOfFault {l : Launch} (hl : l.flags = pinnedFlags ++ [noTraceFlag]) {D : va_G} {dA : Nat → ClassId} {B : Nat} {x0 : Nat} {x1 : Int32} {x2 : Nat} {S : Sx} {X : Int32 × Sx} (h : fLa_placeOfFault x0 x1 x2 S = some X) : Mx l yLa_placeOfFault tLa_placeOfFault rLa_placeOfFault 0 0 D dA B S [.ref x0, .int x1, .ref x2] 0 (some (.int X.1)) X.2 :=
  mx_of hl (by decide) rfl rfl (Nat.le_of_ble_eq_true rfl) (fun Γ e1 e2 e3 e4 e5 => by subst e1; subst e3; subst e4; subst e5; exact wLa_placeOfFault e2 hl x0 x1 x2 S h)
/-! MatchPipe$Layout.plan(LMatchPipe$Program;)V -/
def yLa_plan : MethodName := ⟨"MatchPipe$Layout", "plan", "(LMatchPipe$Program;)V"⟩
def tLa_plan : tM := (prog_6_method_3_code, "MatchPipe$Layout", 4, "plan", none, [])
def rLa_plan : Room := { frames := 5, cells := 0, slots := 0, locals := 109 }
theorem kLa_plan : cOf yLa_plan tLa_plan ∈ gT := gT_in 893 (by decide +kernel) rfl
theorem iLa_plan : Cond.initialized yLa_plan.cls ∈ gT := gT_in 63 (by decide +kernel) rfl
theorem mLa_plan : okM yLa_plan 1 := ⟨by decide, by decide, by unfold nPar; decide +kernel⟩
theorem nLa_plan : Cond.instanceMethod yLa_plan ∈ gT := gT_in 891 (by decide +kernel) rfl
theorem lLa_plan : Cond.selects "MatchPipe$Layout" yLa_plan yLa_plan ∈ gT := gT_in 892 (by decide +kernel) rfl
def fLa_plan_6  : Nat → Nat → Nat → Int32 → Sx → Option (Sx)
  | 0, _, _, _, _ => none
  | n + 1, x0, x1, x2, S =>
    if (6 : Int32) < x2 then
    ((pZ S 7 3 x0 1).bind fun S1 =>
    some S1)
    else
    ((ckd S x0 7).bind fun _ =>
    bd2 (fLa_placeOfFault x0 x2 x1 S) fun r5 S6 =>
    if r5 = (-1) then
    (fLa_plan_6 n x0 x1 (x2 + 1) S6)
    else
    ((pI S6 7 5 x0 x2).bind fun S7 =>
    (pI S7 7 6 x0 r5).bind fun S9 =>
    some S9))
set_option maxRecDepth 100000 in
set_option maxHeartbeats 4000000 in
theorem wLa_plan_6 {Γ : vG} (hR : gR Γ = rLa_plan) (hl : (gl Γ).flags = pinnedFlags ++ [noTraceFlag]) {X : Sx}  : ∀ (n : Nat) (x0 : Nat) (x1 : Nat) (x2 : Int32) (S : Sx), fLa_plan_6  n x0 x1 x2 S = some X → vV Γ tLa_plan (mQ Γ 0 0 0 none X) S 0 0 6 [(0, .ref x0), (1, .ref x1), (2, .int x2)] [] := by
  intro n
  induction n with
  | zero => intro x0 x1 x2 S h; rw [fLa_plan_6] at h; cases h
  | succ n ih =>
    intro x0 x1 x2 S h
    rw [fLa_plan_6] at h
    refine v_iload_n (pc := 6) (show decode (tC tLa_plan) 6 = .ok (.iload_n 2, 1) by decide +kernel) 2 rfl rfl ?_
    refine v_bipush (pc := 7) (v := 6) (show decode (tC tLa_plan) 7 = .ok (.bipush 6, 2) by decide +kernel) (by decide) ?_
    refine v_icmp_gt (pc := 9) 41 (show decode (tC tLa_plan) 9 = .ok (.if_icmp .gt 32, 3) by decide +kernel) (by decide) (fun c => ?_) (fun c => ?_)
    · replace h := ite_t c h
      refine v_aload_n (pc := 41) (show decode (tC tLa_plan) 41 = .ok (.aload_n 0, 1) by decide +kernel) 0 rfl rfl ?_
      refine v_iconst (pc := 42) (v := 1) (show decode (tC tLa_plan) 42 = .ok (.iconst 1, 1) by decide +kernel) (by decide) ?_
      obtain ⟨S1, e2, h⟩ := ob h
      refine v_putZ (pc := 43) oF_La_25 (fin_ok (kd := 7) (k := 3) (by decide +kernel)) e2 (show decode (tC tLa_plan) 43 = .ok (.putfield 25, 3) by decide +kernel) ?_
      obtain rfl := Option.some.inj h
      refine v_wide (ce2 := 0) (sl2 := 0) (by decide) (by decide) ?_
      exact v_vret (pc := 46) rfl (show decode (tC tLa_plan) 46 = .ok (.return_, 1) by decide +kernel)
    · replace h := ite_f c h
      refine v_aload_n (pc := 12) (show decode (tC tLa_plan) 12 = .ok (.aload_n 0, 1) by decide +kernel) 0 rfl rfl ?_
      refine v_iload_n (pc := 13) (show decode (tC tLa_plan) 13 = .ok (.iload_n 2, 1) by decide +kernel) 2 rfl rfl ?_
      refine v_aload_n (pc := 14) (show decode (tC tLa_plan) 14 = .ok (.aload_n 1, 1) by decide +kernel) 1 rfl rfl ?_
      obtain ⟨_, e4, h⟩ := ob h
      obtain ⟨r5, S6, e3, h⟩ := ob2 h
      refine v_call (pc := 15) (v := (some (.int r5))) (y := yLa_placeOfFault) (θ' := tLa_placeOfFault) (rm := rLa_placeOfFault) (av := [.ref x0, .int x2, .ref x1]) (st := []) (cLa_placeOfFault (l := gl Γ) hl e3) kLa_placeOfFault iLa_placeOfFault (iv_virt (y := yLa_placeOfFault) (θ' := tLa_placeOfFault) (kd := 7) (As := [.int x2, .ref x1]) rfl (ckd_of e4) kLa_placeOfFault (gT_in 895 (by decide +kernel) rfl) nLa_placeOfFault lLa_placeOfFault mLa_placeOfFault rfl (show decode (tC tLa_plan) 15 = .ok (.invokevirtual 35, 3) by decide +kernel)) ⟨by rw [hR]; decide, by rw [hR]; decide, by rw [hR]; decide, by rw [hR]; decide⟩ (Nat.le_of_ble_eq_true rfl) ?_
      refine v_istore_n (pc := 18) [(3, .int r5), (0, .ref x0), (1, .ref x1), (2, .int x2)] (show decode (tC tLa_plan) 18 = .ok (.istore_n 3, 1) by decide +kernel) rfl (by decide) rfl ?_
      refine v_iload_n (pc := 19) (show decode (tC tLa_plan) 19 = .ok (.iload_n 3, 1) by decide +kernel) 0 rfl rfl ?_
      refine v_iconst (pc := 20) (v := (-1)) (show decode (tC tLa_plan) 20 = .ok (.iconst (-1), 1) by decide +kernel) (by decide) ?_
      refine v_icmp_eq (pc := 21) 35 (show decode (tC tLa_plan) 21 = .ok (.if_icmp .eq 14, 3) by decide +kernel) (by decide) (fun c => ?_) (fun c => ?_)
      · replace h := ite_t c h
        refine v_iinc (pc := 35) (j := 3) [(2, .int (x2 + 1)), (3, .int r5), (0, .ref x0), (1, .ref x1)] (show decode (tC tLa_plan) 35 = .ok (.iinc 2 1, 3) by decide +kernel) rfl rfl (by decide) rfl ?_
        refine v_goto (pc := 38) 6 (show decode (tC tLa_plan) 38 = .ok (.goto (-32), 3) by decide +kernel) (by decide) ?_
        refine v_sub [(0, .ref x0), (1, .ref x1), (2, .int (x2 + 1))] [2, 3, 0] rfl ?_
        exact ih x0 x1 (x2 + 1) S6 h
      · replace h := ite_f c h
        refine v_aload_n (pc := 24) (show decode (tC tLa_plan) 24 = .ok (.aload_n 0, 1) by decide +kernel) 1 rfl rfl ?_
        refine v_iload_n (pc := 25) (show decode (tC tLa_plan) 25 = .ok (.iload_n 2, 1) by decide +kernel) 3 rfl rfl ?_
        obtain ⟨S7, e8, h⟩ := ob h
        refine v_putI (pc := 26) oF_La_29 (fin_ok (kd := 7) (k := 5) (by decide +kernel)) e8 (show decode (tC tLa_plan) 26 = .ok (.putfield 29, 3) by decide +kernel) ?_
        refine v_aload_n (pc := 29) (show decode (tC tLa_plan) 29 = .ok (.aload_n 0, 1) by decide +kernel) 1 rfl rfl ?_
        refine v_iload_n (pc := 30) (show decode (tC tLa_plan) 30 = .ok (.iload_n 3, 1) by decide +kernel) 0 rfl rfl ?_
        obtain ⟨S9, e10, h⟩ := ob h
        refine v_putI (pc := 31) oF_La_21 (fin_ok (kd := 7) (k := 6) (by decide +kernel)) e10 (show decode (tC tLa_plan) 31 = .ok (.putfield 21, 3) by decide +kernel) ?_
        obtain rfl := Option.some.inj h
        refine v_wide (ce2 := 0) (sl2 := 0) (by decide) (by decide) ?_
        exact v_vret (pc := 34) rfl (show decode (tC tLa_plan) 34 = .ok (.return_, 1) by decide +kernel)
def fLa_plan (x0 : Nat) (x1 : Nat) (S : Sx) : Option (Sx) :=
    (ckd S x0 7).bind fun _ =>
    (fLa_forget x0 S).bind fun S3 =>
    fLa_plan_6  fuel x0 x1 1 S3
set_option maxRecDepth 100000 in
set_option maxHeartbeats 4000000 in
theorem wLa_plan {Γ : vG} (hR : gR Γ = rLa_plan) (hl : (gl Γ).flags = pinnedFlags ++ [noTraceFlag]) (x0 : Nat) (x1 : Nat) (S : Sx) {X : Sx} (h : fLa_plan x0 x1 S = some X) : vV Γ tLa_plan (mQ Γ 0 0 0 none X) S 0 0 0 [(0, .ref x0), (1, .ref x1)] [] := by
  unfold fLa_plan at h
  refine v_aload_n (pc := 0) (show decode (tC tLa_plan) 0 = .ok (.aload_n 0, 1) by decide +kernel) 0 rfl rfl ?_
  obtain ⟨_, e2, h⟩ := ob h
  obtain ⟨S3, e1, h⟩ := ob h
  refine v_call (pc := 1) (v := none) (y := yLa_forget) (θ' := tLa_forget) (rm := rLa_forget) (av := [.ref x0]) (st := []) (cLa_forget (l := gl Γ) hl e1) kLa_forget iLa_forget (iv_virt (y := yLa_forget) (θ' := tLa_forget) (kd := 7) (As := []) rfl (ckd_of e2) kLa_forget (gT_in 894 (by decide +kernel) rfl) nLa_forget lLa_forget mLa_forget rfl (show decode (tC tLa_plan) 1 = .ok (.invokevirtual 32, 3) by decide +kernel)) ⟨by rw [hR]; decide, by rw [hR]; decide, by rw [hR]; decide, by rw [hR]; decide⟩ (Nat.le_of_ble_eq_true rfl) ?_
  refine v_iconst (pc := 4) (v := 1) (show decode (tC tLa_plan) 4 = .ok (.iconst 1, 1) by decide +kernel) (by decide) ?_
  refine v_istore_n (pc := 5) [(2, .int 1), (0, .ref x0), (1, .ref x1)] (show decode (tC tLa_plan) 5 = .ok (.istore_n 2, 1) by decide +kernel) rfl (by decide) rfl ?_
  refine v_sub [(0, .ref x0), (1, .ref x1), (2, .int 1)] [1, 2, 0] rfl ?_
  exact wLa_plan_6 hR hl  fuel x0 x1 1 S3 h
theorem cLa_plan {l : Launch} (hl : l.flags = pinnedFlags ++ [noTraceFlag]) {D : va_G} {dA : Nat → ClassId} {B : Nat} {x0 : Nat} {x1 : Nat} {S : Sx} {X : Sx} (h : fLa_plan x0 x1 S = some X) : Mx l yLa_plan tLa_plan rLa_plan 0 0 D dA B S [.ref x0, .ref x1] 0 none X :=
  mx_of hl (by decide) rfl rfl (Nat.le_of_ble_eq_true rfl) (fun Γ e1 e2 e3 e4 e5 => by subst e1; subst e3; subst e4; subst e5; exact wLa_plan e2 hl x0 x1 S h)
