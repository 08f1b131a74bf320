theorem oF_He_9 : okF "MatchPipe$Header" 9 11 0 1 := ⟨_, rfl, by decide, gT_in 432 (by decide +kernel) rfl, rfl⟩
theorem oF_He_15 : okF "MatchPipe$Header" 15 11 1 1 := ⟨_, rfl, by decide, gT_in 434 (by decide +kernel) rfl, rfl⟩
theorem oF_He_24 : okF "MatchPipe$Header" 24 11 2 0 := ⟨_, rfl, by decide, gT_in 435 (by decide +kernel) rfl, rfl⟩
theorem oF_He_28 : okF "MatchPipe$Header" 28 11 3 0 := ⟨_, rfl, by decide, gT_in 436 (by decide +kernel) rfl, rfl⟩
theorem oF_He_31 : okF "MatchPipe$Header" 31 11 4 0 := ⟨_, rfl, by decide, gT_in 437 (by decide +kernel) rfl, rfl⟩
theorem oF_He_34 : okF "MatchPipe$Header" 34 11 5 0 := ⟨_, rfl, by decide, gT_in 438 (by decide +kernel) rfl, rfl⟩
theorem oF_He_37 : okF "MatchPipe$Header" 37 11 6 0 := ⟨_, rfl, by decide, gT_in 440 (by decide +kernel) rfl, rfl⟩
theorem oF_He_40 : okF "MatchPipe$Header" 40 11 7 2 := ⟨_, rfl, by decide, gT_in 442 (by decide +kernel) rfl, rfl⟩
theorem oF_He_44 : okF "MatchPipe$Header" 44 1 6 0 := ⟨_, rfl, by decide, gT_in 301 (by decide +kernel) rfl, rfl⟩
theorem oF_He_49 : okF "MatchPipe$Header" 49 1 1 1 := ⟨_, rfl, by decide, gT_in 285 (by decide +kernel) rfl, rfl⟩
theorem oF_He_57 : okF "MatchPipe$Header" 57 2 5 0 := ⟨_, rfl, by decide, gT_in 120 (by decide +kernel) rfl, rfl⟩
theorem oF_He_62 : okF "MatchPipe$Header" 62 2 7 0 := ⟨_, rfl, by decide, gT_in 124 (by decide +kernel) rfl, rfl⟩
theorem oF_He_69 : okF "MatchPipe$Header" 69 2 4 0 := ⟨_, rfl, by decide, gT_in 117 (by decide +kernel) rfl, rfl⟩
theorem oF_He_72 : okF "MatchPipe$Header" 72 2 0 1 := ⟨_, rfl, by decide, gT_in 111 (by decide +kernel) rfl, rfl⟩
theorem oF_He_74 : okF "MatchPipe$Header" 74 1 0 1 := ⟨_, rfl, by decide, gT_in 283 (by decide +kernel) rfl, rfl⟩
theorem oF_He_81 : okF "MatchPipe$Header" 81 9 2 0 := ⟨_, rfl, by decide, gT_in 396 (by decide +kernel) rfl, rfl⟩
theorem oF_He_86 : okF "MatchPipe$Header" 86 9 1 1 := ⟨_, rfl, by decide, gT_in 394 (by decide +kernel) rfl, rfl⟩
theorem oF_He_100 : okF "MatchPipe$Header" 100 3 4 0 := ⟨_, rfl, by decide, gT_in 158 (by decide +kernel) rfl, rfl⟩
theorem oF_He_105 : okF "MatchPipe$Header" 105 3 1 1 := ⟨_, rfl, by decide, gT_in 152 (by decide +kernel) rfl, rfl⟩
theorem oF_He_108 : okF "MatchPipe$Header" 108 3 2 1 := ⟨_, rfl, by decide, gT_in 154 (by decide +kernel) rfl, rfl⟩
theorem oF_He_111 : okF "MatchPipe$Header" 111 3 3 1 := ⟨_, rfl, by decide, gT_in 156 (by decide +kernel) rfl, rfl⟩
theorem oF_He_114 : okF "MatchPipe$Header" 114 3 0 1 := ⟨_, rfl, by decide, gT_in 150 (by decide +kernel) rfl, rfl⟩
theorem oF_He_127 : okF "MatchPipe$Header" 127 5 6 0 := ⟨_, rfl, by decide, gT_in 195 (by decide +kernel) rfl, rfl⟩
theorem oF_He_132 : okF "MatchPipe$Header" 132 5 7 0 := ⟨_, rfl, by decide, gT_in 197 (by decide +kernel) rfl, rfl⟩
/-! MatchPipe$Header.begin()V -/
def yHe_begin : MethodName := ⟨"MatchPipe$Header", "begin", "()V"⟩
def tHe_begin : tM := (prog_5_method_2_code, "MatchPipe$Header", 1, "begin", none, [])
def rHe_begin : Room := { frames := 1, cells := 0, slots := 0, locals := 23 }
theorem kHe_begin : cOf yHe_begin tHe_begin ∈ gT := gT_in 1058 (by decide +kernel) rfl
theorem iHe_begin : Cond.initialized yHe_begin.cls ∈ gT := gT_in 66 (by decide +kernel) rfl
theorem mHe_begin : okM yHe_begin 0 := ⟨by decide, by decide, by unfold nPar; decide +kernel⟩
theorem nHe_begin : Cond.instanceMethod yHe_begin ∈ gT := gT_in 1056 (by decide +kernel) rfl
theorem lHe_begin : Cond.selects "MatchPipe$Header" yHe_begin yHe_begin ∈ gT := gT_in 1057 (by decide +kernel) rfl
def fHe_begin (x0 : Nat) (S : Sx) : Option (Sx) :=
    (gX S 11 0 x0).bind fun v1 =>
    (fJA_fill v1 0 S).bind fun S4 =>
    (pI S4 11 2 x0 0).bind fun S5 =>
    (pI S5 11 3 x0 0).bind fun S7 =>
    (pI S7 11 4 x0 0).bind fun S9 =>
    (pI S9 11 5 x0 0).bind fun S11 =>
    (pI S11 11 6 x0 0).bind fun S13 =>
    (pZ S13 11 7 x0 0).bind fun S15 =>
    some S15
set_option maxRecDepth 100000 in
set_option maxHeartbeats 4000000 in
theorem wHe_begin {Γ : vG} (hR : gR Γ = rHe_begin) (hl : (gl Γ).flags = pinnedFlags ++ [noTraceFlag]) (x0 : Nat) (S : Sx) {X : Sx} (h : fHe_begin x0 S = some X) : vV Γ tHe_begin (mQ Γ 0 0 0 none X) S 0 0 0 [(0, .ref x0)] [] := by
  unfold fHe_begin at h
  refine v_aload_n (pc := 0) (show decode (tC tHe_begin) 0 = .ok (.aload_n 0, 1) by decide +kernel) 0 rfl rfl ?_
  obtain ⟨v1, e2, h⟩ := ob h
  refine v_getX (pc := 1) oF_He_9 e2 (show decode (tC tHe_begin) 1 = .ok (.getfield 9, 3) by decide +kernel) ?_
  refine v_iconst (pc := 4) (v := 0) (show decode (tC tHe_begin) 4 = .ok (.iconst 0, 1) by decide +kernel) (by decide) ?_
  obtain ⟨S4, e3, h⟩ := ob h
  refine v_call (pc := 5) (v := none) (y := yJA_fill) (θ' := tJA_fill) (rm := rJA_fill) (av := [.ref v1, .int 0]) (st := []) (cJA_fill (l := gl Γ) hl e3) kJA_fill iJA_fill (iv_static (y := yJA_fill) (θ' := tJA_fill) (n := 2) (As := [.ref v1, .int 0]) kJA_fill (gT_in 1059 (by decide +kernel) rfl) sJA_fill iJA_fill mJA_fill rfl (show decode (tC tHe_begin) 5 = .ok (.invokestatic 18, 3) by decide +kernel)) ⟨by rw [hR]; decide, by rw [hR]; decide, by rw [hR]; decide, by rw [hR]; decide⟩ (Nat.le_of_ble_eq_true rfl) ?_
  refine v_aload_n (pc := 8) (show decode (tC tHe_begin) 8 = .ok (.aload_n 0, 1) by decide +kernel) 0 rfl rfl ?_
  refine v_iconst (pc := 9) (v := 0) (show decode (tC tHe_begin) 9 = .ok (.iconst 0, 1) by decide +kernel) (by decide) ?_
  obtain ⟨S5, e6, h⟩ := ob h
  refine v_putI (pc := 10) oF_He_24 (fin_ok (kd := 11) (k := 2) (by decide +kernel)) e6 (show decode (tC tHe_begin) 10 = .ok (.putfield 24, 3) by decide +kernel) ?_
  refine v_aload_n (pc := 13) (show decode (tC tHe_begin) 13 = .ok (.aload_n 0, 1) by decide +kernel) 0 rfl rfl ?_
  refine v_iconst (pc := 14) (v := 0) (show decode (tC tHe_begin) 14 = .ok (.iconst 0, 1) by decide +kernel) (by decide) ?_
  obtain ⟨S7, e8, h⟩ := ob h
  refine v_putI (pc := 15) oF_He_28 (fin_ok (kd := 11) (k := 3) (by decide +kernel)) e8 (show decode (tC tHe_begin) 15 = .ok (.putfield 28, 3) by decide +kernel) ?_
  refine v_aload_n (pc := 18) (show decode (tC tHe_begin) 18 = .ok (.aload_n 0, 1) by decide +kernel) 0 rfl rfl ?_
  refine v_iconst (pc := 19) (v := 0) (show decode (tC tHe_begin) 19 = .ok (.iconst 0, 1) by decide +kernel) (by decide) ?_
  obtain ⟨S9, e10, h⟩ := ob h
  refine v_putI (pc := 20) oF_He_31 (fin_ok (kd := 11) (k := 4) (by decide +kernel)) e10 (show decode (tC tHe_begin) 20 = .ok (.putfield 31, 3) by decide +kernel) ?_
  refine v_aload_n (pc := 23) (show decode (tC tHe_begin) 23 = .ok (.aload_n 0, 1) by decide +kernel) 0 rfl rfl ?_
  refine v_iconst (pc := 24) (v := 0) (show decode (tC tHe_begin) 24 = .ok (.iconst 0, 1) by decide +kernel) (by decide) ?_
  obtain ⟨S11, e12, h⟩ := ob h
  refine v_putI (pc := 25) oF_He_34 (fin_ok (kd := 11) (k := 5) (by decide +kernel)) e12 (show decode (tC tHe_begin) 25 = .ok (.putfield 34, 3) by decide +kernel) ?_
  refine v_aload_n (pc := 28) (show decode (tC tHe_begin) 28 = .ok (.aload_n 0, 1) by decide +kernel) 0 rfl rfl ?_
  refine v_iconst (pc := 29) (v := 0) (show decode (tC tHe_begin) 29 = .ok (.iconst 0, 1) by decide +kernel) (by decide) ?_
  obtain ⟨S13, e14, h⟩ := ob h
  refine v_putI (pc := 30) oF_He_37 (fin_ok (kd := 11) (k := 6) (by decide +kernel)) e14 (show decode (tC tHe_begin) 30 = .ok (.putfield 37, 3) by decide +kernel) ?_
  refine v_aload_n (pc := 33) (show decode (tC tHe_begin) 33 = .ok (.aload_n 0, 1) by decide +kernel) 0 rfl rfl ?_
  refine v_iconst (pc := 34) (v := 0) (show decode (tC tHe_begin) 34 = .ok (.iconst 0, 1) by decide +kernel) (by decide) ?_
  obtain ⟨S15, e16, h⟩ := ob h
  refine v_putZ (pc := 35) oF_He_40 (fin_ok (kd := 11) (k := 7) (by decide +kernel)) e16 (show decode (tC tHe_begin) 35 = .ok (.putfield 40, 3) by decide +kernel) ?_
  obtain rfl := Option.some.inj h
  refine v_wide (ce2 := 0) (sl2 := 0) (by decide) (by decide) ?_
  exact v_vret (pc := 38) rfl (show decode (tC tHe_begin) 38 = .ok (.return_, 1) by decide +kernel)
theorem cHe_begin {l : Launch} (hl : l.flags = pinnedFlags ++ [noTraceFlag]) {D : va_G} {dA : Nat → ClassId} {B : Nat} {x0 : Nat} {S : Sx} {X : Sx} (h : fHe_begin x0 S = some X) : Mx l yHe_begin tHe_begin rHe_begin 0 0 D dA B S [.ref x0] 0 none X :=
  mx_of hl (by decide) rfl rfl (Nat.le_of_ble_eq_true rfl) (fun Γ e1 e2 e3 e4 e5 => by subst e1; subst e3; subst e4; subst e5; exact wHe_begin e2 hl x0 S h)
/-! MatchPipe$Header.takesFields(LMatchPipe$State;LMatchPipe$Program;LMatchPipe$Operation;)Z -/
def yHe_takesFields : MethodName := ⟨"MatchPipe$Header", "takesFields", "(LMatchPipe$State;LMatchPipe$Program;LMatchPipe$Operation;)Z"⟩
def tHe_takesFields : tM := (prog_5_method_4_code, "MatchPipe$Header", 7, "takesFields", some .boolean, [])
def rHe_takesFields : Room := { frames := 2, cells := 0, slots := 0, locals := 45 }
theorem kHe_takesFields : cOf yHe_takesFields tHe_takesFields ∈ gT := gT_in 1067 (by decide +kernel) rfl
theorem iHe_takesFields : Cond.initialized yHe_takesFields.cls ∈ gT := gT_in 66 (by decide +kernel) rfl
theorem mHe_takesFields : okM yHe_takesFields 3 := ⟨by decide, by decide, by unfold nPar; decide +kernel⟩
theorem nHe_takesFields : Cond.instanceMethod yHe_takesFields ∈ gT := gT_in 1066 (by decide +kernel) rfl
theorem lHe_takesFields : Cond.selects "MatchPipe$Header" yHe_takesFields yHe_takesFields ∈ gT := gT_in 15 (by decide +kernel) rfl
def fHe_takesFields_3  : Nat → Nat → Nat → Nat → Nat → Int32 → Sx → Option (Int32 × Sx)
  | 0, _, _, _, _, _, _ => none
  | n + 1, x0, x1, x2, x3, x4, S =>
    (gI S 2 4 x1).bind fun v1 =>
    if v1 ≤ x4 then
    (some (1, S))
    else
    ((gX S 2 0 x1).bind fun v3 =>
    (aI S v3 x4).bind fun v5 =>
    (gX S 1 0 x2).bind fun v7 =>
    (aI S v7 v5).bind fun v9 =>
    (gI S 11 4 x0).bind fun v11 =>
    bd2 (fMp_hasBit v11 v5 S) fun r14 S15 =>
    if r14 = 0 then
    ((gI S15 11 3 x0).bind fun v16 =>
    (gI S15 9 2 x3).bind fun v18 =>
    if (v16 + v9) ≤ (8 * v18) then
    ((gX S15 11 0 x0).bind fun v20 =>
    (gX S15 9 1 x3).bind fun v22 =>
    (gI S15 11 3 x0).bind fun v24 =>
    (ckd S15 v22 10).bind fun _ =>
    bd2 (fBi_take v22 v24 v9 S15) fun r28 S29 =>
    (qI S29 v20 v5 r28).bind fun S30 =>
    (gX S30 11 1 x0).bind fun v32 =>
    (gI S30 11 2 x0).bind fun v34 =>
    (qI S30 v32 v34 v5).bind fun S36 =>
    (gI S36 11 2 x0).bind fun v38 =>
    (pI S36 11 2 x0 (v38 + 1)).bind fun S40 =>
    (gI S40 11 3 x0).bind fun v42 =>
    (pI S40 11 3 x0 (v42 + v9)).bind fun S44 =>
    (gI S44 11 4 x0).bind fun v46 =>
    (pI S44 11 4 x0 (v46 ||| (1 <<< (v5 &&& 31)))).bind fun S48 =>
    fHe_takesFields_3 n x0 x1 x2 x3 (x4 + 1) S48)
    else
    (some (0, S15)))
    else
    (some (0, S15)))
set_option maxRecDepth 100000 in
set_option maxHeartbeats 4000000 in
theorem wHe_takesFields_3 {Γ : vG} (hR : gR Γ = rHe_takesFields) (hl : (gl Γ).flags = pinnedFlags ++ [noTraceFlag]) {X : Int32 × Sx}  : ∀ (n : Nat) (x0 : Nat) (x1 : Nat) (x2 : Nat) (x3 : Nat) (x4 : Int32) (S : Sx), fHe_takesFields_3  n x0 x1 x2 x3 x4 S = some X → vV Γ tHe_takesFields (mQ Γ 0 0 0 (some (.int X.1)) X.2) S 0 0 3 [(0, .ref x0), (1, .ref x1), (2, .ref x2), (3, .ref x3), (4, .int x4)] [] := by
  intro n
  induction n with
  | zero => intro x0 x1 x2 x3 x4 S h; rw [fHe_takesFields_3] at h; cases h
  | succ n ih =>
    intro x0 x1 x2 x3 x4 S h
    rw [fHe_takesFields_3] at h
    refine v_iload (pc := 3) (show decode (tC tHe_takesFields) 3 = .ok (.iload 4, 2) by decide +kernel) 4 rfl ?_
    refine v_aload_n (pc := 5) (show decode (tC tHe_takesFields) 5 = .ok (.aload_n 1, 1) by decide +kernel) 1 rfl rfl ?_
    obtain ⟨v1, e2, h⟩ := ob h
    refine v_getI (pc := 6) oF_He_69 (by decide) e2 (show decode (tC tHe_takesFields) 6 = .ok (.getfield 69, 3) by decide +kernel) ?_
    refine v_icmp_ge (pc := 9) 132 (show decode (tC tHe_takesFields) 9 = .ok (.if_icmp .ge 123, 3) by decide +kernel) (by decide) (fun c => ?_) (fun c => ?_)
    · replace h := ite_t c h
      refine v_iconst (pc := 132) (v := 1) (show decode (tC tHe_takesFields) 132 = .ok (.iconst 1, 1) by decide +kernel) (by decide) ?_
      obtain rfl := Option.some.inj h
      refine v_wide (ce2 := 0) (sl2 := 0) (by decide) (by decide) ?_
      exact v_zret (pc := 133) rfl (Or.inr rfl) (show decode (tC tHe_takesFields) 133 = .ok (.ireturn, 1) by decide +kernel)
    · replace h := ite_f c h
      refine v_aload_n (pc := 12) (show decode (tC tHe_takesFields) 12 = .ok (.aload_n 1, 1) by decide +kernel) 1 rfl rfl ?_
      obtain ⟨v3, e4, h⟩ := ob h
      refine v_getX (pc := 13) oF_He_72 e4 (show decode (tC tHe_takesFields) 13 = .ok (.getfield 72, 3) by decide +kernel) ?_
      refine v_iload (pc := 16) (show decode (tC tHe_takesFields) 16 = .ok (.iload 4, 2) by decide +kernel) 4 rfl ?_
      obtain ⟨v5, e6, h⟩ := ob h
      refine v_iald (pc := 18) e6 (show decode (tC tHe_takesFields) 18 = .ok (.iaload, 1) by decide +kernel) ?_
      refine v_istore (pc := 19) [(5, .int v5), (0, .ref x0), (1, .ref x1), (2, .ref x2), (3, .ref x3), (4, .int x4)] (show decode (tC tHe_takesFields) 19 = .ok (.istore 5, 2) by decide +kernel) (by decide) rfl ?_
      refine v_aload_n (pc := 21) (show decode (tC tHe_takesFields) 21 = .ok (.aload_n 2, 1) by decide +kernel) 3 rfl rfl ?_
      obtain ⟨v7, e8, h⟩ := ob h
      refine v_getX (pc := 22) oF_He_74 e8 (show decode (tC tHe_takesFields) 22 = .ok (.getfield 74, 3) by decide +kernel) ?_
      refine v_iload (pc := 25) (show decode (tC tHe_takesFields) 25 = .ok (.iload 5, 2) by decide +kernel) 0 rfl ?_
      obtain ⟨v9, e10, h⟩ := ob h
      refine v_iald (pc := 27) e10 (show decode (tC tHe_takesFields) 27 = .ok (.iaload, 1) by decide +kernel) ?_
      refine v_istore (pc := 28) [(6, .int v9), (5, .int v5), (0, .ref x0), (1, .ref x1), (2, .ref x2), (3, .ref x3), (4, .int x4)] (show decode (tC tHe_takesFields) 28 = .ok (.istore 6, 2) by decide +kernel) (by decide) rfl ?_
      refine v_aload_n (pc := 30) (show decode (tC tHe_takesFields) 30 = .ok (.aload_n 0, 1) by decide +kernel) 2 rfl rfl ?_
      obtain ⟨v11, e12, h⟩ := ob h
      refine v_getI (pc := 31) oF_He_31 (by decide) e12 (show decode (tC tHe_takesFields) 31 = .ok (.getfield 31, 3) by decide +kernel) ?_
      refine v_iload (pc := 34) (show decode (tC tHe_takesFields) 34 = .ok (.iload 5, 2) by decide +kernel) 1 rfl ?_
      obtain ⟨r14, S15, e13, h⟩ := ob2 h
      refine v_call (pc := 36) (v := (some (.int r14))) (y := yMp_hasBit) (θ' := tMp_hasBit) (rm := rMp_hasBit) (av := [.int v11, .int v5]) (st := []) (cMp_hasBit (l := gl Γ) hl e13) kMp_hasBit iMp_hasBit (iv_staticN (y := yMp_hasBit) (θ' := tMp_hasBit) (n := 2) (As := [.int v11, .int v5]) kMp_hasBit (List.mem_of_getElem? (l := nN) (i := 13) rfl) sMp_hasBit iMp_hasBit mMp_hasBit rfl (show decode (tC tHe_takesFields) 36 = .ok (.invokestatic 77, 3) by decide +kernel)) ⟨by rw [hR]; decide, by rw [hR]; decide, by rw [hR]; decide, by rw [hR]; decide⟩ (Nat.le_of_ble_eq_true rfl) ?_
      refine v_if_ne (pc := 39) 59 (show decode (tC tHe_takesFields) 39 = .ok (.ifCond .ne 20, 3) by decide +kernel) (by decide) (fun c => ?_) (fun c => ?_)
      · replace h := ite_f c h
        refine v_iconst (pc := 59) (v := 0) (show decode (tC tHe_takesFields) 59 = .ok (.iconst 0, 1) by decide +kernel) (by decide) ?_
        obtain rfl := Option.some.inj h
        refine v_wide (ce2 := 0) (sl2 := 0) (by decide) (by decide) ?_
        exact v_zret (pc := 60) rfl (Or.inl rfl) (show decode (tC tHe_takesFields) 60 = .ok (.ireturn, 1) by decide +kernel)
      · replace h := ite_t c h
        refine v_aload_n (pc := 42) (show decode (tC tHe_takesFields) 42 = .ok (.aload_n 0, 1) by decide +kernel) 2 rfl rfl ?_
        obtain ⟨v16, e17, h⟩ := ob h
        refine v_getI (pc := 43) oF_He_28 (by decide) e17 (show decode (tC tHe_takesFields) 43 = .ok (.getfield 28, 3) by decide +kernel) ?_
        refine v_iload (pc := 46) (show decode (tC tHe_takesFields) 46 = .ok (.iload 6, 2) by decide +kernel) 0 rfl ?_
        refine v_iadd (pc := 48) (show decode (tC tHe_takesFields) 48 = .ok (.iadd, 1) by decide +kernel) ?_
        refine v_bipush (pc := 49) (v := 8) (show decode (tC tHe_takesFields) 49 = .ok (.bipush 8, 2) by decide +kernel) (by decide) ?_
        refine v_aload_n (pc := 51) (show decode (tC tHe_takesFields) 51 = .ok (.aload_n 3, 1) by decide +kernel) 5 rfl rfl ?_
        obtain ⟨v18, e19, h⟩ := ob h
        refine v_getI (pc := 52) oF_He_81 (by decide) e19 (show decode (tC tHe_takesFields) 52 = .ok (.getfield 81, 3) by decide +kernel) ?_
        refine v_imul (pc := 55) (show decode (tC tHe_takesFields) 55 = .ok (.imul, 1) by decide +kernel) ?_
        refine v_icmp_le (pc := 56) 61 (show decode (tC tHe_takesFields) 56 = .ok (.if_icmp .le 5, 3) by decide +kernel) (by decide) (fun c => ?_) (fun c => ?_)
        · replace h := ite_t c h
          refine v_aload_n (pc := 61) (show decode (tC tHe_takesFields) 61 = .ok (.aload_n 0, 1) by decide +kernel) 2 rfl rfl ?_
          obtain ⟨v20, e21, h⟩ := ob h
          refine v_getX (pc := 62) oF_He_9 e21 (show decode (tC tHe_takesFields) 62 = .ok (.getfield 9, 3) by decide +kernel) ?_
          refine v_iload (pc := 65) (show decode (tC tHe_takesFields) 65 = .ok (.iload 5, 2) by decide +kernel) 1 rfl ?_
          refine v_aload_n (pc := 67) (show decode (tC tHe_takesFields) 67 = .ok (.aload_n 3, 1) by decide +kernel) 5 rfl rfl ?_
          obtain ⟨v22, e23, h⟩ := ob h
          refine v_getX (pc := 68) oF_He_86 e23 (show decode (tC tHe_takesFields) 68 = .ok (.getfield 86, 3) by decide +kernel) ?_
          refine v_aload_n (pc := 71) (show decode (tC tHe_takesFields) 71 = .ok (.aload_n 0, 1) by decide +kernel) 2 rfl rfl ?_
          obtain ⟨v24, e25, h⟩ := ob h
          refine v_getI (pc := 72) oF_He_28 (by decide) e25 (show decode (tC tHe_takesFields) 72 = .ok (.getfield 28, 3) by decide +kernel) ?_
          refine v_iload (pc := 75) (show decode (tC tHe_takesFields) 75 = .ok (.iload 6, 2) by decide +kernel) 0 rfl ?_
          obtain ⟨_, e27, h⟩ := ob h
          obtain ⟨r28, S29, e26, h⟩ := ob2 h
          refine v_call (pc := 77) (v := (some (.int r28))) (y := yBi_take) (θ' := tBi_take) (rm := rBi_take) (av := [.ref v22, .int v24, .int v9]) (st := [.int v5, .ref v20]) (cBi_take (l := gl Γ) hl e26) kBi_take iBi_take (iv_virt (y := yBi_take) (θ' := tBi_take) (kd := 10) (As := [.int v24, .int v9]) rfl (ckd_of e27) kBi_take (gT_in 1069 (by decide +kernel) rfl) nBi_take lBi_take mBi_take rfl (show decode (tC tHe_takesFields) 77 = .ok (.invokevirtual 90, 3) by decide +kernel)) ⟨by rw [hR]; decide, by rw [hR]; decide, by rw [hR]; decide, by rw [hR]; decide⟩ (Nat.le_of_ble_eq_true rfl) ?_
          obtain ⟨S30, e31, h⟩ := ob h
          refine v_iast (pc := 80) e31 (show decode (tC tHe_takesFields) 80 = .ok (.iastore, 1) by decide +kernel) ?_
          refine v_aload_n (pc := 81) (show decode (tC tHe_takesFields) 81 = .ok (.aload_n 0, 1) by decide +kernel) 2 rfl rfl ?_
          obtain ⟨v32, e33, h⟩ := ob h
          refine v_getX (pc := 82) oF_He_15 e33 (show decode (tC tHe_takesFields) 82 = .ok (.getfield 15, 3) by decide +kernel) ?_
          refine v_aload_n (pc := 85) (show decode (tC tHe_takesFields) 85 = .ok (.aload_n 0, 1) by decide +kernel) 2 rfl rfl ?_
          obtain ⟨v34, e35, h⟩ := ob h
          refine v_getI (pc := 86) oF_He_24 (by decide) e35 (show decode (tC tHe_takesFields) 86 = .ok (.getfield 24, 3) by decide +kernel) ?_
          refine v_iload (pc := 89) (show decode (tC tHe_takesFields) 89 = .ok (.iload 5, 2) by decide +kernel) 1 rfl ?_
          obtain ⟨S36, e37, h⟩ := ob h
          refine v_iast (pc := 91) e37 (show decode (tC tHe_takesFields) 91 = .ok (.iastore, 1) by decide +kernel) ?_
          refine v_aload_n (pc := 92) (show decode (tC tHe_takesFields) 92 = .ok (.aload_n 0, 1) by decide +kernel) 2 rfl rfl ?_
          refine v_dup (pc := 93) (show decode (tC tHe_takesFields) 93 = .ok (.dup, 1) by decide +kernel) rfl ?_
          obtain ⟨v38, e39, h⟩ := ob h
          refine v_getI (pc := 94) oF_He_24 (by decide) e39 (show decode (tC tHe_takesFields) 94 = .ok (.getfield 24, 3) by decide +kernel) ?_
          refine v_iconst (pc := 97) (v := 1) (show decode (tC tHe_takesFields) 97 = .ok (.iconst 1, 1) by decide +kernel) (by decide) ?_
          refine v_iadd (pc := 98) (show decode (tC tHe_takesFields) 98 = .ok (.iadd, 1) by decide +kernel) ?_
          obtain ⟨S40, e41, h⟩ := ob h
          refine v_putI (pc := 99) oF_He_24 (fin_ok (kd := 11) (k := 2) (by decide +kernel)) e41 (show decode (tC tHe_takesFields) 99 = .ok (.putfield 24, 3) by decide +kernel) ?_
          refine v_aload_n (pc := 102) (show decode (tC tHe_takesFields) 102 = .ok (.aload_n 0, 1) by decide +kernel) 2 rfl rfl ?_
          refine v_dup (pc := 103) (show decode (tC tHe_takesFields) 103 = .ok (.dup, 1) by decide +kernel) rfl ?_
          obtain ⟨v42, e43, h⟩ := ob h
          refine v_getI (pc := 104) oF_He_28 (by decide) e43 (show decode (tC tHe_takesFields) 104 = .ok (.getfield 28, 3) by decide +kernel) ?_
          refine v_iload (pc := 107) (show decode (tC tHe_takesFields) 107 = .ok (.iload 6, 2) by decide +kernel) 0 rfl ?_
          refine v_iadd (pc := 109) (show decode (tC tHe_takesFields) 109 = .ok (.iadd, 1) by decide +kernel) ?_
          obtain ⟨S44, e45, h⟩ := ob h
          refine v_putI (pc := 110) oF_He_28 (fin_ok (kd := 11) (k := 3) (by decide +kernel)) e45 (show decode (tC tHe_takesFields) 110 = .ok (.putfield 28, 3) by decide +kernel) ?_
          refine v_aload_n (pc := 113) (show decode (tC tHe_takesFields) 113 = .ok (.aload_n 0, 1) by decide +kernel) 2 rfl rfl ?_
          refine v_dup (pc := 114) (show decode (tC tHe_takesFields) 114 = .ok (.dup, 1) by decide +kernel) rfl ?_
          obtain ⟨v46, e47, h⟩ := ob h
          refine v_getI (pc := 115) oF_He_31 (by decide) e47 (show decode (tC tHe_takesFields) 115 = .ok (.getfield 31, 3) by decide +kernel) ?_
          refine v_iconst (pc := 118) (v := 1) (show decode (tC tHe_takesFields) 118 = .ok (.iconst 1, 1) by decide +kernel) (by decide) ?_
          refine v_iload (pc := 119) (show decode (tC tHe_takesFields) 119 = .ok (.iload 5, 2) by decide +kernel) 1 rfl ?_
          refine v_ishl (pc := 121) (show decode (tC tHe_takesFields) 121 = .ok (.ishl, 1) by decide +kernel) ?_
          refine v_ior (pc := 122) (show decode (tC tHe_takesFields) 122 = .ok (.ior, 1) by decide +kernel) ?_
          obtain ⟨S48, e49, h⟩ := ob h
          refine v_putI (pc := 123) oF_He_31 (fin_ok (kd := 11) (k := 4) (by decide +kernel)) e49 (show decode (tC tHe_takesFields) 123 = .ok (.putfield 31, 3) by decide +kernel) ?_
          refine v_iinc (pc := 126) (j := 6) [(4, .int (x4 + 1)), (6, .int v9), (5, .int v5), (0, .ref x0), (1, .ref x1), (2, .ref x2), (3, .ref x3)] (show decode (tC tHe_takesFields) 126 = .ok (.iinc 4 1, 3) by decide +kernel) rfl rfl (by decide) rfl ?_
          refine v_goto (pc := 129) 3 (show decode (tC tHe_takesFields) 129 = .ok (.goto (-126), 3) by decide +kernel) (by decide) ?_
          refine v_sub [(0, .ref x0), (1, .ref x1), (2, .ref x2), (3, .ref x3), (4, .int (x4 + 1))] [3, 4, 5, 6, 0] rfl ?_
          exact ih x0 x1 x2 x3 (x4 + 1) S48 h
        · replace h := ite_f c h
          refine v_iconst (pc := 59) (v := 0) (show decode (tC tHe_takesFields) 59 = .ok (.iconst 0, 1) by decide +kernel) (by decide) ?_
          obtain rfl := Option.some.inj h
          refine v_wide (ce2 := 0) (sl2 := 0) (by decide) (by decide) ?_
          exact v_zret (pc := 60) rfl (Or.inl rfl) (show decode (tC tHe_takesFields) 60 = .ok (.ireturn, 1) by decide +kernel)
def fHe_takesFields (x0 : Nat) (x1 : Nat) (x2 : Nat) (x3 : Nat) (S : Sx) : Option (Int32 × Sx) :=
    fHe_takesFields_3  fuel x0 x1 x2 x3 0 S
set_option maxRecDepth 100000 in
set_option maxHeartbeats 4000000 in
theorem wHe_takesFields {Γ : vG} (hR : gR Γ = rHe_takesFields) (hl : (gl Γ).flags = pinnedFlags ++ [noTraceFlag]) (x0 : Nat) (x1 : Nat) (x2 : Nat) (x3 : Nat) (S : Sx) {X : Int32 × Sx} (h : fHe_takesFields x0 x1 x2 x3 S = some X) : vV Γ tHe_takesFields (mQ Γ 0 0 0 (some (.int X.1)) X.2) S 0 0 0 [(0, .ref x0), (1, .ref x1), (2, .ref x2), (3, .ref x3)] [] := by
  unfold fHe_takesFields at h
  refine v_iconst (pc := 0) (v := 0) (show decode (tC tHe_takesFields) 0 = .ok (.iconst 0, 1) by decide +kernel) (by decide) ?_
  refine v_istore (pc := 1) [(4, .int 0), (0, .ref x0), (1, .ref x1), (2, .ref x2), (3, .ref x3)] (show decode (tC tHe_takesFields) 1 = .ok (.istore 4, 2) by decide +kernel) (by decide) rfl ?_
  refine v_sub [(0, .ref x0), (1, .ref x1), (2, .ref x2), (3, .ref x3), (4, .int 0)] [1, 2, 3, 4, 0] rfl ?_
  exact wHe_takesFields_3 hR hl  fuel x0 x1 x2 x3 0 S h
theorem cHe_takesFields {l : Launch} (hl : l.flags = pinnedFlags ++ [noTraceFlag]) {D : va_G} {dA : Nat → ClassId} {B : Nat} {x0 : Nat} {x1 : Nat} {x2 : Nat} {x3 : Nat} {S : Sx} {X : Int32 × Sx} (h : fHe_takesFields x0 x1 x2 x3 S = some X) : Mx l yHe_takesFields tHe_takesFields rHe_takesFields 0 0 D dA B S [.ref x0, .ref x1, .ref x2, .ref x3] 0 (some (.int X.1)) X.2 :=
  mx_of hl (by decide) rfl rfl (Nat.le_of_ble_eq_true rfl) (fun Γ e1 e2 e3 e4 e5 => by subst e1; subst e3; subst e4; subst e5; exact wHe_takesFields e2 hl x0 x1 x2 x3 S h)
/-! MatchPipe$Header.reads(LMatchPipe$Program;LMatchPipe$Operation;)Z -/
def yHe_reads : MethodName := ⟨"MatchPipe$Header", "reads", "(LMatchPipe$Program;LMatchPipe$Operation;)Z"⟩
def tHe_reads : tM := (prog_5_method_3_code, "MatchPipe$Header", 7, "reads", some .boolean, [])
def rHe_reads : Room := { frames := 3, cells := 0, slots := 0, locals := 71 }
theorem kHe_reads : cOf yHe_reads tHe_reads ∈ gT := gT_in 1063 (by decide +kernel) rfl
theorem iHe_reads : Cond.initialized yHe_reads.cls ∈ gT := gT_in 66 (by decide +kernel) rfl
theorem mHe_reads : okM yHe_reads 2 := ⟨by decide, by decide, by unfold nPar; decide +kernel⟩
theorem nHe_reads : Cond.instanceMethod yHe_reads ∈ gT := gT_in 1061 (by decide +kernel) rfl
theorem lHe_reads : Cond.selects "MatchPipe$Header" yHe_reads yHe_reads ∈ gT := gT_in 1062 (by decide +kernel) rfl
def fHe_reads_92  (x4 : Int32) (S : Sx) : Option (Int32 × Sx) :=
    if x4 = (-1) then
    (some (1, S))
    else
    (some (0, S))
set_option maxRecDepth 100000 in
set_option maxHeartbeats 4000000 in
theorem wHe_reads_92 {Γ : vG} (hR : gR Γ = rHe_reads) (hl : (gl Γ).flags = pinnedFlags ++ [noTraceFlag]) {X : Int32 × Sx}  : ∀ (x4 : Int32) (S : Sx), fHe_reads_92  x4 S = some X → vV Γ tHe_reads (mQ Γ 0 0 0 (some (.int X.1)) X.2) S 0 0 92 [(4, .int x4)] [] := by
  intro x4 S h
  unfold fHe_reads_92 at h
  refine v_iload (pc := 92) (show decode (tC tHe_reads) 92 = .ok (.iload 4, 2) by decide +kernel) 0 rfl ?_
  refine v_iconst (pc := 94) (v := (-1)) (show decode (tC tHe_reads) 94 = .ok (.iconst (-1), 1) by decide +kernel) (by decide) ?_
  refine v_icmp_ne (pc := 95) 102 (show decode (tC tHe_reads) 95 = .ok (.if_icmp .ne 7, 3) by decide +kernel) (by decide) (fun c => ?_) (fun c => ?_)
  · replace h := ite_f c h
    refine v_iconst (pc := 102) (v := 0) (show decode (tC tHe_reads) 102 = .ok (.iconst 0, 1) by decide +kernel) (by decide) ?_
    obtain rfl := Option.some.inj h
    refine v_wide (ce2 := 0) (sl2 := 0) (by decide) (by decide) ?_
    exact v_zret (pc := 103) rfl (Or.inl rfl) (show decode (tC tHe_reads) 103 = .ok (.ireturn, 1) by decide +kernel)
  · replace h := ite_t c h
    refine v_iconst (pc := 98) (v := 1) (show decode (tC tHe_reads) 98 = .ok (.iconst 1, 1) by decide +kernel) (by decide) ?_
    refine v_goto (pc := 99) 103 (show decode (tC tHe_reads) 99 = .ok (.goto 4, 3) by decide +kernel) (by decide) ?_
    obtain rfl := Option.some.inj h
    refine v_wide (ce2 := 0) (sl2 := 0) (by decide) (by decide) ?_
    exact v_zret (pc := 103) rfl (Or.inr rfl) (show decode (tC tHe_reads) 103 = .ok (.ireturn, 1) by decide +kernel)
def fHe_reads_10  : Nat → Nat → Nat → Nat → Int32 → Int32 → Int32 → Sx → Option (Int32 × Sx)
  | 0, _, _, _, _, _, _, _ => none
  | n + 1, x0, x1, x2, x3, x4, x5, S =>
    if x3 ≤ x5 then
    (fHe_reads_92  x4 S)
    else
    (if x4 < 0 then
    (fHe_reads_92  x4 S)
    else
    ((gI S 1 6 x1).bind fun v1 =>
    if v1 ≤ x4 then
    (fHe_reads_92  x4 S)
    else
    ((gX S 1 1 x1).bind fun v3 =>
    (aX S 2 v3 x4).bind fun v5 =>
    (ckd S x0 11).bind fun _ =>
    bd2 (fHe_takesFields x0 v5 x1 x2 S) fun r9 S10 =>
    if r9 = 0 then
    (some (0, S10))
    else
    ((gI S10 2 5 v5).bind fun v11 =>
    if v11 = (-1) then
    ((gI S10 2 7 v5).bind fun v23 =>
    fHe_reads_10 n x0 x1 x2 x3 v23 (x5 + 1) S10)
    else
    ((gX S10 11 0 x0).bind fun v13 =>
    (gI S10 2 5 v5).bind fun v15 =>
    (aI S10 v13 v15).bind fun v17 =>
    (ckd S10 v5 2).bind fun _ =>
    bd2 (fSt_next v5 v17 S10) fun r21 S22 =>
    fHe_reads_10 n x0 x1 x2 x3 r21 (x5 + 1) S22)))))
set_option maxRecDepth 100000 in
set_option maxHeartbeats 4000000 in
theorem wHe_reads_10 {Γ : vG} (hR : gR Γ = rHe_reads) (hl : (gl Γ).flags = pinnedFlags ++ [noTraceFlag]) {X : Int32 × Sx}  : ∀ (n : Nat) (x0 : Nat) (x1 : Nat) (x2 : Nat) (x3 : Int32) (x4 : Int32) (x5 : Int32) (S : Sx), fHe_reads_10  n x0 x1 x2 x3 x4 x5 S = some X → vV Γ tHe_reads (mQ Γ 0 0 0 (some (.int X.1)) X.2) S 0 0 10 [(0, .ref x0), (1, .ref x1), (2, .ref x2), (3, .int x3), (4, .int x4), (5, .int x5)] [] := by
  intro n
  induction n with
  | zero => intro x0 x1 x2 x3 x4 x5 S h; rw [fHe_reads_10] at h; cases h
  | succ n ih =>
    intro x0 x1 x2 x3 x4 x5 S h
    rw [fHe_reads_10] at h
    refine v_iload (pc := 10) (show decode (tC tHe_reads) 10 = .ok (.iload 5, 2) by decide +kernel) 5 rfl ?_
    refine v_iload_n (pc := 12) (show decode (tC tHe_reads) 12 = .ok (.iload_n 3, 1) by decide +kernel) 3 rfl rfl ?_
    refine v_icmp_ge (pc := 13) 92 (show decode (tC tHe_reads) 13 = .ok (.if_icmp .ge 79, 3) by decide +kernel) (by decide) (fun c => ?_) (fun c => ?_)
    · replace h := ite_t c h
      refine v_sub [(4, .int x4)] [4] rfl ?_
      exact wHe_reads_92 hR hl  x4 S h
    · replace h := ite_f c h
      refine v_iload (pc := 16) (show decode (tC tHe_reads) 16 = .ok (.iload 4, 2) by decide +kernel) 4 rfl ?_
      refine v_if_lt (pc := 18) 92 (show decode (tC tHe_reads) 18 = .ok (.ifCond .lt 74, 3) by decide +kernel) (by decide) (fun c => ?_) (fun c => ?_)
      · replace h := ite_t c h
        refine v_sub [(4, .int x4)] [4] rfl ?_
        exact wHe_reads_92 hR hl  x4 S h
      · replace h := ite_f c h
        refine v_iload (pc := 21) (show decode (tC tHe_reads) 21 = .ok (.iload 4, 2) by decide +kernel) 4 rfl ?_
        refine v_aload_n (pc := 23) (show decode (tC tHe_reads) 23 = .ok (.aload_n 1, 1) by decide +kernel) 1 rfl rfl ?_
        obtain ⟨v1, e2, h⟩ := ob h
        refine v_getI (pc := 24) oF_He_44 (by decide) e2 (show decode (tC tHe_reads) 24 = .ok (.getfield 44, 3) by decide +kernel) ?_
        refine v_icmp_ge (pc := 27) 92 (show decode (tC tHe_reads) 27 = .ok (.if_icmp .ge 65, 3) by decide +kernel) (by decide) (fun c => ?_) (fun c => ?_)
        · replace h := ite_t c h
          refine v_sub [(4, .int x4)] [4] rfl ?_
          exact wHe_reads_92 hR hl  x4 S h
        · replace h := ite_f c h
          refine v_aload_n (pc := 30) (show decode (tC tHe_reads) 30 = .ok (.aload_n 1, 1) by decide +kernel) 1 rfl rfl ?_
          obtain ⟨v3, e4, h⟩ := ob h
          refine v_getX (pc := 31) oF_He_49 e4 (show decode (tC tHe_reads) 31 = .ok (.getfield 49, 3) by decide +kernel) ?_
          refine v_iload (pc := 34) (show decode (tC tHe_reads) 34 = .ok (.iload 4, 2) by decide +kernel) 4 rfl ?_
          obtain ⟨v5, e6, h⟩ := ob h
          refine v_aald (pc := 36) (kd := 2) rfl e6 (show decode (tC tHe_reads) 36 = .ok (.aaload, 1) by decide +kernel) ?_
          refine v_astore (pc := 37) [(6, .ref v5), (0, .ref x0), (1, .ref x1), (2, .ref x2), (3, .int x3), (4, .int x4), (5, .int x5)] (show decode (tC tHe_reads) 37 = .ok (.astore 6, 2) by decide +kernel) (by decide) rfl ?_
          refine v_aload_n (pc := 39) (show decode (tC tHe_reads) 39 = .ok (.aload_n 0, 1) by decide +kernel) 1 rfl rfl ?_
          refine v_aload (pc := 40) (show decode (tC tHe_reads) 40 = .ok (.aload 6, 2) by decide +kernel) 0 rfl ?_
          refine v_aload_n (pc := 42) (show decode (tC tHe_reads) 42 = .ok (.aload_n 1, 1) by decide +kernel) 2 rfl rfl ?_
          refine v_aload_n (pc := 43) (show decode (tC tHe_reads) 43 = .ok (.aload_n 2, 1) by decide +kernel) 3 rfl rfl ?_
          obtain ⟨_, e8, h⟩ := ob h
          obtain ⟨r9, S10, e7, h⟩ := ob2 h
          refine v_call (pc := 44) (v := (some (.int r9))) (y := yHe_takesFields) (θ' := tHe_takesFields) (rm := rHe_takesFields) (av := [.ref x0, .ref v5, .ref x1, .ref x2]) (st := []) (cHe_takesFields (l := gl Γ) hl e7) kHe_takesFields iHe_takesFields (iv_virt (y := yHe_takesFields) (θ' := tHe_takesFields) (kd := 11) (As := [.ref v5, .ref x1, .ref x2]) rfl (ckd_of e8) kHe_takesFields (gT_in 1064 (by decide +kernel) rfl) nHe_takesFields lHe_takesFields mHe_takesFields rfl (show decode (tC tHe_reads) 44 = .ok (.invokevirtual 53, 3) by decide +kernel)) ⟨by rw [hR]; decide, by rw [hR]; decide, by rw [hR]; decide, by rw [hR]; decide⟩ (Nat.le_of_ble_eq_true rfl) ?_
          refine v_if_ne (pc := 47) 52 (show decode (tC tHe_reads) 47 = .ok (.ifCond .ne 5, 3) by decide +kernel) (by decide) (fun c => ?_) (fun c => ?_)
          · replace h := ite_f c h
            refine v_aload (pc := 52) (show decode (tC tHe_reads) 52 = .ok (.aload 6, 2) by decide +kernel) 0 rfl ?_
            obtain ⟨v11, e12, h⟩ := ob h
            refine v_getI (pc := 54) oF_He_57 (by decide) e12 (show decode (tC tHe_reads) 54 = .ok (.getfield 57, 3) by decide +kernel) ?_
            refine v_iconst (pc := 57) (v := (-1)) (show decode (tC tHe_reads) 57 = .ok (.iconst (-1), 1) by decide +kernel) (by decide) ?_
            refine v_icmp_ne (pc := 58) 69 (show decode (tC tHe_reads) 58 = .ok (.if_icmp .ne 11, 3) by decide +kernel) (by decide) (fun c => ?_) (fun c => ?_)
            · replace h := ite_f c h
              refine v_aload (pc := 69) (show decode (tC tHe_reads) 69 = .ok (.aload 6, 2) by decide +kernel) 0 rfl ?_
              refine v_aload_n (pc := 71) (show decode (tC tHe_reads) 71 = .ok (.aload_n 0, 1) by decide +kernel) 1 rfl rfl ?_
              obtain ⟨v13, e14, h⟩ := ob h
              refine v_getX (pc := 72) oF_He_9 e14 (show decode (tC tHe_reads) 72 = .ok (.getfield 9, 3) by decide +kernel) ?_
              refine v_aload (pc := 75) (show decode (tC tHe_reads) 75 = .ok (.aload 6, 2) by decide +kernel) 0 rfl ?_
              obtain ⟨v15, e16, h⟩ := ob h
              refine v_getI (pc := 77) oF_He_57 (by decide) e16 (show decode (tC tHe_reads) 77 = .ok (.getfield 57, 3) by decide +kernel) ?_
              obtain ⟨v17, e18, h⟩ := ob h
              refine v_iald (pc := 80) e18 (show decode (tC tHe_reads) 80 = .ok (.iaload, 1) by decide +kernel) ?_
              obtain ⟨_, e20, h⟩ := ob h
              obtain ⟨r21, S22, e19, h⟩ := ob2 h
              refine v_call (pc := 81) (v := (some (.int r21))) (y := ySt_next) (θ' := tSt_next) (rm := rSt_next) (av := [.ref v5, .int v17]) (st := []) (cSt_next (l := gl Γ) hl e19) kSt_next iSt_next (iv_virt (y := ySt_next) (θ' := tSt_next) (kd := 2) (As := [.int v17]) rfl (ckd_of e20) kSt_next (gT_in 1070 (by decide +kernel) rfl) nSt_next lSt_next mSt_next rfl (show decode (tC tHe_reads) 81 = .ok (.invokevirtual 65, 3) by decide +kernel)) ⟨by rw [hR]; decide, by rw [hR]; decide, by rw [hR]; decide, by rw [hR]; decide⟩ (Nat.le_of_ble_eq_true rfl) ?_
              refine v_istore (pc := 84) [(4, .int r21), (6, .ref v5), (0, .ref x0), (1, .ref x1), (2, .ref x2), (3, .int x3), (5, .int x5)] (show decode (tC tHe_reads) 84 = .ok (.istore 4, 2) by decide +kernel) (by decide) rfl ?_
              refine v_iinc (pc := 86) (j := 6) [(5, .int (x5 + 1)), (4, .int r21), (6, .ref v5), (0, .ref x0), (1, .ref x1), (2, .ref x2), (3, .int x3)] (show decode (tC tHe_reads) 86 = .ok (.iinc 5 1, 3) by decide +kernel) rfl rfl (by decide) rfl ?_
              refine v_goto (pc := 89) 10 (show decode (tC tHe_reads) 89 = .ok (.goto (-79), 3) by decide +kernel) (by decide) ?_
              refine v_sub [(0, .ref x0), (1, .ref x1), (2, .ref x2), (3, .int x3), (4, .int r21), (5, .int (x5 + 1))] [3, 4, 5, 6, 1, 0] rfl ?_
              exact ih x0 x1 x2 x3 r21 (x5 + 1) S22 h
            · replace h := ite_t c h
              refine v_aload (pc := 61) (show decode (tC tHe_reads) 61 = .ok (.aload 6, 2) by decide +kernel) 0 rfl ?_
              obtain ⟨v23, e24, h⟩ := ob h
              refine v_getI (pc := 63) oF_He_62 (by decide) e24 (show decode (tC tHe_reads) 63 = .ok (.getfield 62, 3) by decide +kernel) ?_
              refine v_goto (pc := 66) 84 (show decode (tC tHe_reads) 66 = .ok (.goto 18, 3) by decide +kernel) (by decide) ?_
              refine v_istore (pc := 84) [(4, .int v23), (6, .ref v5), (0, .ref x0), (1, .ref x1), (2, .ref x2), (3, .int x3), (5, .int x5)] (show decode (tC tHe_reads) 84 = .ok (.istore 4, 2) by decide +kernel) (by decide) rfl ?_
              refine v_iinc (pc := 86) (j := 6) [(5, .int (x5 + 1)), (4, .int v23), (6, .ref v5), (0, .ref x0), (1, .ref x1), (2, .ref x2), (3, .int x3)] (show decode (tC tHe_reads) 86 = .ok (.iinc 5 1, 3) by decide +kernel) rfl rfl (by decide) rfl ?_
              refine v_goto (pc := 89) 10 (show decode (tC tHe_reads) 89 = .ok (.goto (-79), 3) by decide +kernel) (by decide) ?_
              refine v_sub [(0, .ref x0), (1, .ref x1), (2, .ref x2), (3, .int x3), (4, .int v23), (5, .int (x5 + 1))] [3, 4, 5, 6, 1, 0] rfl ?_
              exact ih x0 x1 x2 x3 v23 (x5 + 1) S10 h
          · replace h := ite_t c h
            refine v_iconst (pc := 50) (v := 0) (show decode (tC tHe_reads) 50 = .ok (.iconst 0, 1) by decide +kernel) (by decide) ?_
            obtain rfl := Option.some.inj h
            refine v_wide (ce2 := 0) (sl2 := 0) (by decide) (by decide) ?_
            exact v_zret (pc := 51) rfl (Or.inl rfl) (show decode (tC tHe_reads) 51 = .ok (.ireturn, 1) by decide +kernel)
def fHe_reads (x0 : Nat) (x1 : Nat) (x2 : Nat) (S : Sx) : Option (Int32 × Sx) :=
    fHe_reads_10  fuel x0 x1 x2 136 0 0 S
set_option maxRecDepth 100000 in
set_option maxHeartbeats 4000000 in
theorem wHe_reads {Γ : vG} (hR : gR Γ = rHe_reads) (hl : (gl Γ).flags = pinnedFlags ++ [noTraceFlag]) (x0 : Nat) (x1 : Nat) (x2 : Nat) (S : Sx) {X : Int32 × Sx} (h : fHe_reads x0 x1 x2 S = some X) : vV Γ tHe_reads (mQ Γ 0 0 0 (some (.int X.1)) X.2) S 0 0 0 [(0, .ref x0), (1, .ref x1), (2, .ref x2)] [] := by
  unfold fHe_reads at h
  refine v_sipush (pc := 0) (v := 136) (show decode (tC tHe_reads) 0 = .ok (.sipush 136, 3) by decide +kernel) (by decide) ?_
  refine v_istore_n (pc := 3) [(3, .int 136), (0, .ref x0), (1, .ref x1), (2, .ref x2)] (show decode (tC tHe_reads) 3 = .ok (.istore_n 3, 1) by decide +kernel) rfl (by decide) rfl ?_
  refine v_iconst (pc := 4) (v := 0) (show decode (tC tHe_reads) 4 = .ok (.iconst 0, 1) by decide +kernel) (by decide) ?_
  refine v_istore (pc := 5) [(4, .int 0), (3, .int 136), (0, .ref x0), (1, .ref x1), (2, .ref x2)] (show decode (tC tHe_reads) 5 = .ok (.istore 4, 2) by decide +kernel) (by decide) rfl ?_
  refine v_iconst (pc := 7) (v := 0) (show decode (tC tHe_reads) 7 = .ok (.iconst 0, 1) by decide +kernel) (by decide) ?_
  refine v_istore (pc := 8) [(5, .int 0), (4, .int 0), (3, .int 136), (0, .ref x0), (1, .ref x1), (2, .ref x2)] (show decode (tC tHe_reads) 8 = .ok (.istore 5, 2) by decide +kernel) (by decide) rfl ?_
  refine v_sub [(0, .ref x0), (1, .ref x1), (2, .ref x2), (3, .int 136), (4, .int 0), (5, .int 0)] [3, 4, 5, 2, 1, 0] rfl ?_
  exact wHe_reads_10 hR hl  fuel x0 x1 x2 136 0 0 S h
theorem cHe_reads {l : Launch} (hl : l.flags = pinnedFlags ++ [noTraceFlag]) {D : va_G} {dA : Nat → ClassId} {B : Nat} {x0 : Nat} {x1 : Nat} {x2 : Nat} {S : Sx} {X : Int32 × Sx} (h : fHe_reads x0 x1 x2 S = some X) : Mx l yHe_reads tHe_reads rHe_reads 0 0 D dA B S [.ref x0, .ref x1, .ref x2] 0 (some (.int X.1)) X.2 :=
  mx_of hl (by decide) rfl rfl (Nat.le_of_ble_eq_true rfl) (fun Γ e1 e2 e3 e4 e5 => by subst e1; subst e3; subst e4; subst e5; exact wHe_reads e2 hl x0 x1 x2 S h)
/-! MatchPipe$Header.putBack(LMatchPipe$Program;LMatchPipe$Operation;)V -/
def yHe_putBack : MethodName := ⟨"MatchPipe$Header", "putBack", "(LMatchPipe$Program;LMatchPipe$Operation;)V"⟩
def tHe_putBack : tM := (prog_5_method_5_code, "MatchPipe$Header", 6, "putBack", none, [])
def rHe_putBack : Room := { frames := 2, cells := 0, slots := 0, locals := 52 }
theorem kHe_putBack : cOf yHe_putBack tHe_putBack ∈ gT := gT_in 1048 (by decide +kernel) rfl
theorem iHe_putBack : Cond.initialized yHe_putBack.cls ∈ gT := gT_in 66 (by decide +kernel) rfl
theorem mHe_putBack : okM yHe_putBack 2 := ⟨by decide, by decide, by unfold nPar; decide +kernel⟩
theorem nHe_putBack : Cond.instanceMethod yHe_putBack ∈ gT := gT_in 1046 (by decide +kernel) rfl
theorem lHe_putBack : Cond.selects "MatchPipe$Header" yHe_putBack yHe_putBack ∈ gT := gT_in 1047 (by decide +kernel) rfl
def fHe_putBack_5  : Nat → Nat → Nat → Nat → Int32 → Int32 → Sx → Option (Sx)
  | 0, _, _, _, _, _, _ => none
  | n + 1, x0, x1, x2, x3, x4, S =>
    (gI S 11 2 x0).bind fun v1 =>
    if v1 ≤ x4 then
    (some S)
    else
    ((gX S 1 0 x1).bind fun v3 =>
    (gX S 11 1 x0).bind fun v5 =>
    (aI S v5 x4).bind fun v7 =>
    (aI S v3 v7).bind fun v9 =>
    (gX S 9 1 x2).bind fun v11 =>
    (gX S 11 0 x0).bind fun v13 =>
    (gX S 11 1 x0).bind fun v15 =>
    (aI S v15 x4).bind fun v17 =>
    (aI S v13 v17).bind fun v19 =>
    (ckd S v11 10).bind fun _ =>
    (fBi_put v11 x3 v9 v19 S).bind fun S23 =>
    fHe_putBack_5 n x0 x1 x2 (x3 + v9) (x4 + 1) S23)
set_option maxRecDepth 100000 in
set_option maxHeartbeats 4000000 in
theorem wHe_putBack_5 {Γ : vG} (hR : gR Γ = rHe_putBack) (hl : (gl Γ).flags = pinnedFlags ++ [noTraceFlag]) {X : Sx}  : ∀ (n : Nat) (x0 : Nat) (x1 : Nat) (x2 : Nat) (x3 : Int32) (x4 : Int32) (S : Sx), fHe_putBack_5  n x0 x1 x2 x3 x4 S = some X → vV Γ tHe_putBack (mQ Γ 0 0 0 none X) S 0 0 5 [(0, .ref x0), (1, .ref x1), (2, .ref x2), (3, .int x3), (4, .int x4)] [] := by
  intro n
  induction n with
  | zero => intro x0 x1 x2 x3 x4 S h; rw [fHe_putBack_5] at h; cases h
  | succ n ih =>
    intro x0 x1 x2 x3 x4 S h
    rw [fHe_putBack_5] at h
    refine v_iload (pc := 5) (show decode (tC tHe_putBack) 5 = .ok (.iload 4, 2) by decide +kernel) 4 rfl ?_
    refine v_aload_n (pc := 7) (show decode (tC tHe_putBack) 7 = .ok (.aload_n 0, 1) by decide +kernel) 0 rfl rfl ?_
    obtain ⟨v1, e2, h⟩ := ob h
    refine v_getI (pc := 8) oF_He_24 (by decide) e2 (show decode (tC tHe_putBack) 8 = .ok (.getfield 24, 3) by decide +kernel) ?_
    refine v_icmp_ge (pc := 11) 61 (show decode (tC tHe_putBack) 11 = .ok (.if_icmp .ge 50, 3) by decide +kernel) (by decide) (fun c => ?_) (fun c => ?_)
    · replace h := ite_t c h
      obtain rfl := Option.some.inj h
      refine v_wide (ce2 := 0) (sl2 := 0) (by decide) (by decide) ?_
      exact v_vret (pc := 61) rfl (show decode (tC tHe_putBack) 61 = .ok (.return_, 1) by decide +kernel)
    · replace h := ite_f c h
      refine v_aload_n (pc := 14) (show decode (tC tHe_putBack) 14 = .ok (.aload_n 1, 1) by decide +kernel) 1 rfl rfl ?_
      obtain ⟨v3, e4, h⟩ := ob h
      refine v_getX (pc := 15) oF_He_74 e4 (show decode (tC tHe_putBack) 15 = .ok (.getfield 74, 3) by decide +kernel) ?_
      refine v_aload_n (pc := 18) (show decode (tC tHe_putBack) 18 = .ok (.aload_n 0, 1) by decide +kernel) 0 rfl rfl ?_
      obtain ⟨v5, e6, h⟩ := ob h
      refine v_getX (pc := 19) oF_He_15 e6 (show decode (tC tHe_putBack) 19 = .ok (.getfield 15, 3) by decide +kernel) ?_
      refine v_iload (pc := 22) (show decode (tC tHe_putBack) 22 = .ok (.iload 4, 2) by decide +kernel) 4 rfl ?_
      obtain ⟨v7, e8, h⟩ := ob h
      refine v_iald (pc := 24) e8 (show decode (tC tHe_putBack) 24 = .ok (.iaload, 1) by decide +kernel) ?_
      obtain ⟨v9, e10, h⟩ := ob h
      refine v_iald (pc := 25) e10 (show decode (tC tHe_putBack) 25 = .ok (.iaload, 1) by decide +kernel) ?_
      refine v_istore (pc := 26) [(5, .int v9), (0, .ref x0), (1, .ref x1), (2, .ref x2), (3, .int x3), (4, .int x4)] (show decode (tC tHe_putBack) 26 = .ok (.istore 5, 2) by decide +kernel) (by decide) rfl ?_
      refine v_aload_n (pc := 28) (show decode (tC tHe_putBack) 28 = .ok (.aload_n 2, 1) by decide +kernel) 3 rfl rfl ?_
      obtain ⟨v11, e12, h⟩ := ob h
      refine v_getX (pc := 29) oF_He_86 e12 (show decode (tC tHe_putBack) 29 = .ok (.getfield 86, 3) by decide +kernel) ?_
      refine v_iload_n (pc := 32) (show decode (tC tHe_putBack) 32 = .ok (.iload_n 3, 1) by decide +kernel) 4 rfl rfl ?_
      refine v_iload (pc := 33) (show decode (tC tHe_putBack) 33 = .ok (.iload 5, 2) by decide +kernel) 0 rfl ?_
      refine v_aload_n (pc := 35) (show decode (tC tHe_putBack) 35 = .ok (.aload_n 0, 1) by decide +kernel) 1 rfl rfl ?_
      obtain ⟨v13, e14, h⟩ := ob h
      refine v_getX (pc := 36) oF_He_9 e14 (show decode (tC tHe_putBack) 36 = .ok (.getfield 9, 3) by decide +kernel) ?_
      refine v_aload_n (pc := 39) (show decode (tC tHe_putBack) 39 = .ok (.aload_n 0, 1) by decide +kernel) 1 rfl rfl ?_
      obtain ⟨v15, e16, h⟩ := ob h
      refine v_getX (pc := 40) oF_He_15 e16 (show decode (tC tHe_putBack) 40 = .ok (.getfield 15, 3) by decide +kernel) ?_
      refine v_iload (pc := 43) (show decode (tC tHe_putBack) 43 = .ok (.iload 4, 2) by decide +kernel) 5 rfl ?_
      obtain ⟨v17, e18, h⟩ := ob h
      refine v_iald (pc := 45) e18 (show decode (tC tHe_putBack) 45 = .ok (.iaload, 1) by decide +kernel) ?_
      obtain ⟨v19, e20, h⟩ := ob h
      refine v_iald (pc := 46) e20 (show decode (tC tHe_putBack) 46 = .ok (.iaload, 1) by decide +kernel) ?_
      obtain ⟨_, e22, h⟩ := ob h
      obtain ⟨S23, e21, h⟩ := ob h
      refine v_call (pc := 47) (v := none) (y := yBi_put) (θ' := tBi_put) (rm := rBi_put) (av := [.ref v11, .int x3, .int v9, .int v19]) (st := []) (cBi_put (l := gl Γ) hl e21) kBi_put iBi_put (iv_virt (y := yBi_put) (θ' := tBi_put) (kd := 10) (As := [.int x3, .int v9, .int v19]) rfl (ckd_of e22) kBi_put (gT_in 1049 (by decide +kernel) rfl) nBi_put lBi_put mBi_put rfl (show decode (tC tHe_putBack) 47 = .ok (.invokevirtual 96, 3) by decide +kernel)) ⟨by rw [hR]; decide, by rw [hR]; decide, by rw [hR]; decide, by rw [hR]; decide⟩ (Nat.le_of_ble_eq_true rfl) ?_
      refine v_iload_n (pc := 50) (show decode (tC tHe_putBack) 50 = .ok (.iload_n 3, 1) by decide +kernel) 4 rfl rfl ?_
      refine v_iload (pc := 51) (show decode (tC tHe_putBack) 51 = .ok (.iload 5, 2) by decide +kernel) 0 rfl ?_
      refine v_iadd (pc := 53) (show decode (tC tHe_putBack) 53 = .ok (.iadd, 1) by decide +kernel) ?_
      refine v_istore_n (pc := 54) [(3, .int (x3 + v9)), (5, .int v9), (0, .ref x0), (1, .ref x1), (2, .ref x2), (4, .int x4)] (show decode (tC tHe_putBack) 54 = .ok (.istore_n 3, 1) by decide +kernel) rfl (by decide) rfl ?_
      refine v_iinc (pc := 55) (j := 5) [(4, .int (x4 + 1)), (3, .int (x3 + v9)), (5, .int v9), (0, .ref x0), (1, .ref x1), (2, .ref x2)] (show decode (tC tHe_putBack) 55 = .ok (.iinc 4 1, 3) by decide +kernel) rfl rfl (by decide) rfl ?_
      refine v_goto (pc := 58) 5 (show decode (tC tHe_putBack) 58 = .ok (.goto (-53), 3) by decide +kernel) (by decide) ?_
      refine v_sub [(0, .ref x0), (1, .ref x1), (2, .ref x2), (3, .int (x3 + v9)), (4, .int (x4 + 1))] [3, 4, 5, 1, 0] rfl ?_
      exact ih x0 x1 x2 (x3 + v9) (x4 + 1) S23 h
def fHe_putBack (x0 : Nat) (x1 : Nat) (x2 : Nat) (S : Sx) : Option (Sx) :=
    fHe_putBack_5  fuel x0 x1 x2 0 0 S
set_option maxRecDepth 100000 in
set_option maxHeartbeats 4000000 in
theorem wHe_putBack {Γ : vG} (hR : gR Γ = rHe_putBack) (hl : (gl Γ).flags = pinnedFlags ++ [noTraceFlag]) (x0 : Nat) (x1 : Nat) (x2 : Nat) (S : Sx) {X : Sx} (h : fHe_putBack x0 x1 x2 S = some X) : vV Γ tHe_putBack (mQ Γ 0 0 0 none X) S 0 0 0 [(0, .ref x0), (1, .ref x1), (2, .ref x2)] [] := by
  unfold fHe_putBack at h
  refine v_iconst (pc := 0) (v := 0) (show decode (tC tHe_putBack) 0 = .ok (.iconst 0, 1) by decide +kernel) (by decide) ?_
  refine v_istore_n (pc := 1) [(3, .int 0), (0, .ref x0), (1, .ref x1), (2, .ref x2)] (show decode (tC tHe_putBack) 1 = .ok (.istore_n 3, 1) by decide +kernel) rfl (by decide) rfl ?_
  refine v_iconst (pc := 2) (v := 0) (show decode (tC tHe_putBack) 2 = .ok (.iconst 0, 1) by decide +kernel) (by decide) ?_
  refine v_istore (pc := 3) [(4, .int 0), (3, .int 0), (0, .ref x0), (1, .ref x1), (2, .ref x2)] (show decode (tC tHe_putBack) 3 = .ok (.istore 4, 2) by decide +kernel) (by decide) rfl ?_
  refine v_sub [(0, .ref x0), (1, .ref x1), (2, .ref x2), (3, .int 0), (4, .int 0)] [2, 3, 4, 1, 0] rfl ?_
  exact wHe_putBack_5 hR hl  fuel x0 x1 x2 0 0 S h
theorem cHe_putBack {l : Launch} (hl : l.flags = pinnedFlags ++ [noTraceFlag]) {D : va_G} {dA : Nat → ClassId} {B : Nat} {x0 : Nat} {x1 : Nat} {x2 : Nat} {S : Sx} {X : Sx} (h : fHe_putBack x0 x1 x2 S = some X) : Mx l yHe_putBack tHe_putBack rHe_putBack 0 0 D dA B S [.ref x0, .ref x1, .ref x2] 0 none X :=
  mx_of hl (by decide) rfl rfl (Nat.le_of_ble_eq_true rfl) (fun Γ e1 e2 e3 e4 e5 => by subst e1; subst e3; subst e4; subst e5; exact wHe_putBack e2 hl x0 x1 x2 S h)
/-! MatchPipe$Header.datum(LMatchPipe$Entry;I)I -/
def yHe_datum : MethodName := ⟨"MatchPipe$Header", "datum", "(LMatchPipe$Entry;I)I"⟩
def tHe_datum : tM := (prog_5_method_7_code, "MatchPipe$Header", 2, "datum", some .int, [])
def rHe_datum : Room := { frames := 0, cells := 0, slots := 0, locals := 0 }
theorem kHe_datum : cOf yHe_datum tHe_datum ∈ gT := gT_in 1145 (by decide +kernel) rfl
theorem iHe_datum : Cond.initialized yHe_datum.cls ∈ gT := gT_in 66 (by decide +kernel) rfl
theorem mHe_datum : okM yHe_datum 2 := ⟨by decide, by decide, by unfold nPar; decide +kernel⟩
theorem sHe_datum : Cond.static yHe_datum ∈ gT := gT_in 1144 (by decide +kernel) rfl
def fHe_datum (x0 : Option Nat) (x1 : Int32) (S : Sx) : Option (Int32 × Sx) :=
    oM x0
    (some (0, S))
    (fun a1 => if x1 = 0 then
    ((gI S 5 6 a1).bind fun v4 =>
    some (v4, S))
    else
    ((gI S 5 7 a1).bind fun v2 =>
    some (v2, S)))
set_option maxRecDepth 100000 in
set_option maxHeartbeats 4000000 in
theorem wHe_datum {Γ : vG} (hR : gR Γ = rHe_datum) (hl : (gl Γ).flags = pinnedFlags ++ [noTraceFlag]) (x0 : Option Nat) (x1 : Int32) (S : Sx) {X : Int32 × Sx} (h : fHe_datum x0 x1 S = some X) : vV Γ tHe_datum (mQ Γ 0 0 0 (some (.int X.1)) X.2) S 0 0 0 [(0, va_rf x0), (1, .int x1)] [] := by
  unfold fHe_datum at h
  refine v_aload_nq (pc := 0) (show decode (tC tHe_datum) 0 = .ok (.aload_n 0, 1) by decide +kernel) 0 rfl rfl ?_
  refine v_ifnonnull (pc := 1) 6 (show decode (tC tHe_datum) 1 = .ok (.ifnonnull 5, 3) by decide +kernel) (by decide) (fun a1 c => ?_) (fun c => ?_)
  · subst c
    dsimp only [oM] at h
    refine v_iload_n (pc := 6) (show decode (tC tHe_datum) 6 = .ok (.iload_n 1, 1) by decide +kernel) 1 rfl rfl ?_
    refine v_if_ne (pc := 7) 17 (show decode (tC tHe_datum) 7 = .ok (.ifCond .ne 10, 3) by decide +kernel) (by decide) (fun c => ?_) (fun c => ?_)
    · replace h := ite_f c h
      refine v_aload_n (pc := 17) (show decode (tC tHe_datum) 17 = .ok (.aload_n 0, 1) by decide +kernel) 0 rfl rfl ?_
      obtain ⟨v2, e3, h⟩ := ob h
      refine v_getI (pc := 18) oF_He_132 (by decide) e3 (show decode (tC tHe_datum) 18 = .ok (.getfield 132, 3) by decide +kernel) ?_
      obtain rfl := Option.some.inj h
      refine v_wide (ce2 := 0) (sl2 := 0) (by decide) (by decide) ?_
      exact v_iret (pc := 21) rfl (show decode (tC tHe_datum) 21 = .ok (.ireturn, 1) by decide +kernel)
    · replace h := ite_t c h
      refine v_aload_n (pc := 10) (show decode (tC tHe_datum) 10 = .ok (.aload_n 0, 1) by decide +kernel) 0 rfl rfl ?_
      obtain ⟨v4, e5, h⟩ := ob h
      refine v_getI (pc := 11) oF_He_127 (by decide) e5 (show decode (tC tHe_datum) 11 = .ok (.getfield 127, 3) by decide +kernel) ?_
      refine v_goto (pc := 14) 21 (show decode (tC tHe_datum) 14 = .ok (.goto 7, 3) by decide +kernel) (by decide) ?_
      obtain rfl := Option.some.inj h
      refine v_wide (ce2 := 0) (sl2 := 0) (by decide) (by decide) ?_
      exact v_iret (pc := 21) rfl (show decode (tC tHe_datum) 21 = .ok (.ireturn, 1) by decide +kernel)
  · subst c
    dsimp only [oM] at h
    refine v_iconst (pc := 4) (v := 0) (show decode (tC tHe_datum) 4 = .ok (.iconst 0, 1) by decide +kernel) (by decide) ?_
    obtain rfl := Option.some.inj h
    refine v_wide (ce2 := 0) (sl2 := 0) (by decide) (by decide) ?_
    exact v_iret (pc := 5) rfl (show decode (tC tHe_datum) 5 = .ok (.ireturn, 1) by decide +kernel)
theorem cHe_datum {l : Launch} (hl : l.flags = pinnedFlags ++ [noTraceFlag]) {D : va_G} {dA : Nat → ClassId} {B : Nat} {x0 : Option Nat} {x1 : Int32} {S : Sx} {X : Int32 × Sx} (h : fHe_datum x0 x1 S = some X) : Mx l yHe_datum tHe_datum rHe_datum 0 0 D dA B S [va_rf x0, .int x1] 0 (some (.int X.1)) X.2 :=
  mx_of hl (by decide) rfl rfl (by cases x0 <;> exact Nat.le_of_ble_eq_true rfl) (fun Γ e1 e2 e3 e4 e5 => by subst e1; subst e3; subst e4; subst e5; cases x0 <;> exact wHe_datum e2 hl _ x1 S h)
/-! MatchPipe$Header.wordOf(II)I -/
def yHe_wordOf : MethodName := ⟨"MatchPipe$Header", "wordOf", "(II)I"⟩
def tHe_wordOf : tM := (prog_5_method_8_code, "MatchPipe$Header", 2, "wordOf", some .int, [])
def rHe_wordOf : Room := { frames := 0, cells := 0, slots := 0, locals := 0 }
theorem kHe_wordOf : cOf yHe_wordOf tHe_wordOf ∈ gT := gT_in 1148 (by decide +kernel) rfl
theorem iHe_wordOf : Cond.initialized yHe_wordOf.cls ∈ gT := gT_in 66 (by decide +kernel) rfl
theorem mHe_wordOf : okM yHe_wordOf 2 := ⟨by decide, by decide, by unfold nPar; decide +kernel⟩
theorem sHe_wordOf : Cond.static yHe_wordOf ∈ gT := gT_in 1147 (by decide +kernel) rfl
def fHe_wordOf (x0 : Int32) (x1 : Int32) (S : Sx) : Option (Int32 × Sx) :=
    some ((x0 * 16) + (x1 &&& 15), S)
set_option maxRecDepth 100000 in
set_option maxHeartbeats 4000000 in
theorem wHe_wordOf {Γ : vG} (hR : gR Γ = rHe_wordOf) (hl : (gl Γ).flags = pinnedFlags ++ [noTraceFlag]) (x0 : Int32) (x1 : Int32) (S : Sx) {X : Int32 × Sx} (h : fHe_wordOf x0 x1 S = some X) : vV Γ tHe_wordOf (mQ Γ 0 0 0 (some (.int X.1)) X.2) S 0 0 0 [(0, .int x0), (1, .int x1)] [] := by
  unfold fHe_wordOf at h
  refine v_iload_n (pc := 0) (show decode (tC tHe_wordOf) 0 = .ok (.iload_n 0, 1) by decide +kernel) 0 rfl rfl ?_
  refine v_bipush (pc := 1) (v := 16) (show decode (tC tHe_wordOf) 1 = .ok (.bipush 16, 2) by decide +kernel) (by decide) ?_
  refine v_imul (pc := 3) (show decode (tC tHe_wordOf) 3 = .ok (.imul, 1) by decide +kernel) ?_
  refine v_iload_n (pc := 4) (show decode (tC tHe_wordOf) 4 = .ok (.iload_n 1, 1) by decide +kernel) 1 rfl rfl ?_
  refine v_bipush (pc := 5) (v := 15) (show decode (tC tHe_wordOf) 5 = .ok (.bipush 15, 2) by decide +kernel) (by decide) ?_
  refine v_iand (pc := 7) (show decode (tC tHe_wordOf) 7 = .ok (.iand, 1) by decide +kernel) ?_
  refine v_iadd (pc := 8) (show decode (tC tHe_wordOf) 8 = .ok (.iadd, 1) by decide +kernel) ?_
  obtain rfl := Option.some.inj h
  refine v_wide (ce2 := 0) (sl2 := 0) (by decide) (by decide) ?_
  exact v_iret (pc := 9) rfl (show decode (tC tHe_wordOf) 9 = .ok (.ireturn, 1) by decide +kernel)
theorem cHe_wordOf {l : Launch} (hl : l.flags = pinnedFlags ++ [noTraceFlag]) {D : va_G} {dA : Nat → ClassId} {B : Nat} {x0 : Int32} {x1 : Int32} {S : Sx} {X : Int32 × Sx} (h : fHe_wordOf x0 x1 S = some X) : Mx l yHe_wordOf tHe_wordOf rHe_wordOf 0 0 D dA B S [.int x0, .int x1] 0 (some (.int X.1)) X.2 :=
  mx_of hl (by decide) rfl rfl (Nat.le_of_ble_eq_true rfl) (fun Γ e1 e2 e3 e4 e5 => by subst e1; subst e3; subst e4; subst e5; exact wHe_wordOf e2 hl x0 x1 S h)
/-! MatchPipe$Header.perform(LMatchPipe$Action;LMatchPipe$Entry;LMatchPipe$Program;[I)V -/
def yHe_perform : MethodName := ⟨"MatchPipe$Header", "perform", "(LMatchPipe$Action;LMatchPipe$Entry;LMatchPipe$Program;[I)V"⟩
def tHe_perform : tM := (prog_5_method_6_code, "MatchPipe$Header", 9, "perform", none, [])
def rHe_perform : Room := { frames := 1, cells := 0, slots := 0, locals := 21 }
theorem kHe_perform : cOf yHe_perform tHe_perform ∈ gT := gT_in 1141 (by decide +kernel) rfl
theorem iHe_perform : Cond.initialized yHe_perform.cls ∈ gT := gT_in 66 (by decide +kernel) rfl
theorem mHe_perform : okM yHe_perform 4 := ⟨by decide, by decide, by unfold nPar; decide +kernel⟩
theorem nHe_perform : Cond.instanceMethod yHe_perform ∈ gT := gT_in 1139 (by decide +kernel) rfl
theorem lHe_perform : Cond.selects "MatchPipe$Header" yHe_perform yHe_perform ∈ gT := gT_in 1140 (by decide +kernel) rfl
def fHe_perform_3  : Nat → Nat → Nat → Option Nat → Nat → Nat → Int32 → Sx → Option (Sx)
  | 0, _, _, _, _, _, _, _ => none
  | n + 1, x0, x1, x2, x3, x4, x5, S =>
    (gI S 3 4 x1).bind fun v1 =>
    if v1 ≤ x5 then
    (some S)
    else
    ((gX S 3 1 x1).bind fun v3 =>
    (aI S v3 x5).bind fun v5 =>
    (gX S 3 2 x1).bind fun v7 =>
    (aI S v7 x5).bind fun v9 =>
    (gX S 3 3 x1).bind fun v11 =>
    (aI S v11 x5).bind fun v13 =>
    (gX S 3 0 x1).bind fun v15 =>
    (aI S v15 x5).bind fun v17 =>
    if v17 = 0 then
    ((gX S 11 0 x0).bind fun v19 =>
    (ckd S x3 1).bind fun _ =>
    bd2 (fPr_ones x3 v5 S) fun r23 S24 =>
    (qI S24 v19 v5 (v9 &&& r23)).bind fun S25 =>
    fHe_perform_3 n x0 x1 x2 x3 x4 (x5 + 1) S25)
    else if v17 = 1 then
    ((gX S 11 0 x0).bind fun v27 =>
    (gX S 11 0 x0).bind fun v29 =>
    (aI S v29 v9).bind fun v31 =>
    (ckd S x3 1).bind fun _ =>
    bd2 (fPr_ones x3 v5 S) fun r35 S36 =>
    (qI S36 v27 v5 (v31 &&& r35)).bind fun S37 =>
    fHe_perform_3 n x0 x1 x2 x3 x4 (x5 + 1) S37)
    else if v17 = 2 then
    ((gX S 11 0 x0).bind fun v39 =>
    (gX S 11 0 x0).bind fun v41 =>
    (aI S v41 v5).bind fun v43 =>
    (gX S 11 0 x0).bind fun v45 =>
    (aI S v45 v9).bind fun v47 =>
    (ckd S x3 1).bind fun _ =>
    bd2 (fPr_ones x3 v5 S) fun r51 S52 =>
    (qI S52 v39 v5 (((v43 + v47) + v13) &&& r51)).bind fun S53 =>
    fHe_perform_3 n x0 x1 x2 x3 x4 (x5 + 1) S53)
    else if v17 = 3 then
    ((gX S 11 0 x0).bind fun v55 =>
    bd2 (fHe_datum x2 v9 S) fun r58 S59 =>
    (ckd S59 x3 1).bind fun _ =>
    bd2 (fPr_ones x3 v5 S59) fun r62 S63 =>
    (qI S63 v55 v5 (r58 &&& r62)).bind fun S64 =>
    fHe_perform_3 n x0 x1 x2 x3 x4 (x5 + 1) S64)
    else if v17 = 4 then
    ((pI S 11 6 x0 v9).bind fun S66 =>
    fHe_perform_3 n x0 x1 x2 x3 x4 (x5 + 1) S66)
    else if v17 = 5 then
    (bd2 (fHe_datum x2 v9 S) fun r69 S70 =>
    (pI S70 11 6 x0 r69).bind fun S71 =>
    fHe_perform_3 n x0 x1 x2 x3 x4 (x5 + 1) S71)
    else if v17 = 6 then
    ((pZ S 11 7 x0 1).bind fun S73 =>
    fHe_perform_3 n x0 x1 x2 x3 x4 (x5 + 1) S73)
    else if v17 = 7 then
    ((gX S 11 0 x0).bind fun v75 =>
    (aI S v75 v9).bind fun v77 =>
    bd2 (fHe_wordOf v5 v77 S) fun r80 S81 =>
    (aI S81 x4 r80).bind fun v82 =>
    (qI S81 x4 r80 (v82 + v13)).bind fun S84 =>
    fHe_perform_3 n x0 x1 x2 x3 x4 (x5 + 1) S84)
    else 
    ((gX S 11 0 x0).bind fun v86 =>
    (gX S 11 0 x0).bind fun v88 =>
    (aI S v88 v9).bind fun v90 =>
    bd2 (fHe_wordOf v13 v90 S) fun r93 S94 =>
    (aI S94 x4 r93).bind fun v95 =>
    (ckd S94 x3 1).bind fun _ =>
    bd2 (fPr_ones x3 v5 S94) fun r99 S100 =>
    (qI S100 v86 v5 (v95 &&& r99)).bind fun S101 =>
    fHe_perform_3 n x0 x1 x2 x3 x4 (x5 + 1) S101))
set_option maxRecDepth 100000 in
set_option maxHeartbeats 4000000 in
theorem wHe_perform_3 {Γ : vG} (hR : gR Γ = rHe_perform) (hl : (gl Γ).flags = pinnedFlags ++ [noTraceFlag]) {X : Sx}  : ∀ (n : Nat) (x0 : Nat) (x1 : Nat) (x2 : Option Nat) (x3 : Nat) (x4 : Nat) (x5 : Int32) (S : Sx), fHe_perform_3  n x0 x1 x2 x3 x4 x5 S = some X → vV Γ tHe_perform (mQ Γ 0 0 0 none X) S 0 0 3 [(0, .ref x0), (1, .ref x1), (2, va_rf x2), (3, .ref x3), (4, .ref x4), (5, .int x5)] [] := by
  intro n
  induction n with
  | zero => intro x0 x1 x2 x3 x4 x5 S h; rw [fHe_perform_3] at h; cases h
  | succ n ih =>
    intro x0 x1 x2 x3 x4 x5 S h
    rw [fHe_perform_3] at h
    refine v_iload (pc := 3) (show decode (tC tHe_perform) 3 = .ok (.iload 5, 2) by decide +kernel) 5 rfl ?_
    refine v_aload_n (pc := 5) (show decode (tC tHe_perform) 5 = .ok (.aload_n 1, 1) by decide +kernel) 1 rfl rfl ?_
    obtain ⟨v1, e2, h⟩ := ob h
    refine v_getI (pc := 6) oF_He_100 (by decide) e2 (show decode (tC tHe_perform) 6 = .ok (.getfield 100, 3) by decide +kernel) ?_
    refine v_icmp_ge (pc := 9) 281 (show decode (tC tHe_perform) 9 = .ok (.if_icmp .ge 272, 3) by decide +kernel) (by decide) (fun c => ?_) (fun c => ?_)
    · replace h := ite_t c h
      obtain rfl := Option.some.inj h
      refine v_wide (ce2 := 0) (sl2 := 0) (by decide) (by decide) ?_
      exact v_vret (pc := 281) rfl (show decode (tC tHe_perform) 281 = .ok (.return_, 1) by decide +kernel)
    · replace h := ite_f c h
      refine v_aload_n (pc := 12) (show decode (tC tHe_perform) 12 = .ok (.aload_n 1, 1) by decide +kernel) 1 rfl rfl ?_
      obtain ⟨v3, e4, h⟩ := ob h
      refine v_getX (pc := 13) oF_He_105 e4 (show decode (tC tHe_perform) 13 = .ok (.getfield 105, 3) by decide +kernel) ?_
      refine v_iload (pc := 16) (show decode (tC tHe_perform) 16 = .ok (.iload 5, 2) by decide +kernel) 5 rfl ?_
      obtain ⟨v5, e6, h⟩ := ob h
      refine v_iald (pc := 18) e6 (show decode (tC tHe_perform) 18 = .ok (.iaload, 1) by decide +kernel) ?_
      refine v_istore (pc := 19) [(6, .int v5), (0, .ref x0), (1, .ref x1), (2, va_rf x2), (3, .ref x3), (4, .ref x4), (5, .int x5)] (show decode (tC tHe_perform) 19 = .ok (.istore 6, 2) by decide +kernel) (by decide) rfl ?_
      refine v_aload_n (pc := 21) (show decode (tC tHe_perform) 21 = .ok (.aload_n 1, 1) by decide +kernel) 2 rfl rfl ?_
      obtain ⟨v7, e8, h⟩ := ob h
      refine v_getX (pc := 22) oF_He_108 e8 (show decode (tC tHe_perform) 22 = .ok (.getfield 108, 3) by decide +kernel) ?_
      refine v_iload (pc := 25) (show decode (tC tHe_perform) 25 = .ok (.iload 5, 2) by decide +kernel) 6 rfl ?_
      obtain ⟨v9, e10, h⟩ := ob h
      refine v_iald (pc := 27) e10 (show decode (tC tHe_perform) 27 = .ok (.iaload, 1) by decide +kernel) ?_
      refine v_istore (pc := 28) [(7, .int v9), (6, .int v5), (0, .ref x0), (1, .ref x1), (2, va_rf x2), (3, .ref x3), (4, .ref x4), (5, .int x5)] (show decode (tC tHe_perform) 28 = .ok (.istore 7, 2) by decide +kernel) (by decide) rfl ?_
      refine v_aload_n (pc := 30) (show decode (tC tHe_perform) 30 = .ok (.aload_n 1, 1) by decide +kernel) 3 rfl rfl ?_
      obtain ⟨v11, e12, h⟩ := ob h
      refine v_getX (pc := 31) oF_He_111 e12 (show decode (tC tHe_perform) 31 = .ok (.getfield 111, 3) by decide +kernel) ?_
      refine v_iload (pc := 34) (show decode (tC tHe_perform) 34 = .ok (.iload 5, 2) by decide +kernel) 7 rfl ?_
      obtain ⟨v13, e14, h⟩ := ob h
      refine v_iald (pc := 36) e14 (show decode (tC tHe_perform) 36 = .ok (.iaload, 1) by decide +kernel) ?_
      refine v_istore (pc := 37) [(8, .int v13), (7, .int v9), (6, .int v5), (0, .ref x0), (1, .ref x1), (2, va_rf x2), (3, .ref x3), (4, .ref x4), (5, .int x5)] (show decode (tC tHe_perform) 37 = .ok (.istore 8, 2) by decide +kernel) (by decide) rfl ?_
      refine v_aload_n (pc := 39) (show decode (tC tHe_perform) 39 = .ok (.aload_n 1, 1) by decide +kernel) 4 rfl rfl ?_
      obtain ⟨v15, e16, h⟩ := ob h
      refine v_getX (pc := 40) oF_He_114 e16 (show decode (tC tHe_perform) 40 = .ok (.getfield 114, 3) by decide +kernel) ?_
      refine v_iload (pc := 43) (show decode (tC tHe_perform) 43 = .ok (.iload 5, 2) by decide +kernel) 8 rfl ?_
      obtain ⟨v17, e18, h⟩ := ob h
      refine v_iald (pc := 45) e18 (show decode (tC tHe_perform) 45 = .ok (.iaload, 1) by decide +kernel) ?_
      by_cases c0 : v17 = 0
      · replace h := ite_t c0 h
        refine v_tblIn (pc := 46) (off := 46) 92 (show decode (tC tHe_perform) 46 = .ok (.tableswitch 200 0 7 #[46, 65, 89, 124, 147, 156, 169, 177], 46) by decide +kernel) (by rw [c0]; decide) (by rw [c0]; decide) (by rw [c0]; decide) (by decide) ?_
        refine v_aload_n (pc := 92) (show decode (tC tHe_perform) 92 = .ok (.aload_n 0, 1) by decide +kernel) 3 rfl rfl ?_
        obtain ⟨v19, e20, h⟩ := ob h
        refine v_getX (pc := 93) oF_He_9 e20 (show decode (tC tHe_perform) 93 = .ok (.getfield 9, 3) by decide +kernel) ?_
        refine v_iload (pc := 96) (show decode (tC tHe_perform) 96 = .ok (.iload 6, 2) by decide +kernel) 2 rfl ?_
        refine v_iload (pc := 98) (show decode (tC tHe_perform) 98 = .ok (.iload 7, 2) by decide +kernel) 1 rfl ?_
        refine v_aload_n (pc := 100) (show decode (tC tHe_perform) 100 = .ok (.aload_n 3, 1) by decide +kernel) 6 rfl rfl ?_
        refine v_iload (pc := 101) (show decode (tC tHe_perform) 101 = .ok (.iload 6, 2) by decide +kernel) 2 rfl ?_
        obtain ⟨_, e22, h⟩ := ob h
        obtain ⟨r23, S24, e21, h⟩ := ob2 h
        refine v_call (pc := 103) (v := (some (.int r23))) (y := yPr_ones) (θ' := tPr_ones) (rm := rPr_ones) (av := [.ref x3, .int v5]) (st := [.int v9, .int v5, .ref v19]) (cPr_ones (l := gl Γ) hl e21) kPr_ones iPr_ones (iv_virt (y := yPr_ones) (θ' := tPr_ones) (kd := 1) (As := [.int v5]) rfl (ckd_of e22) kPr_ones (gT_in 1142 (by decide +kernel) rfl) nPr_ones lPr_ones mPr_ones rfl (show decode (tC tHe_perform) 103 = .ok (.invokevirtual 117, 3) by decide +kernel)) ⟨by rw [hR]; decide, by rw [hR]; decide, by rw [hR]; decide, by rw [hR]; decide⟩ (Nat.le_of_ble_eq_true rfl) ?_
        refine v_iand (pc := 106) (show decode (tC tHe_perform) 106 = .ok (.iand, 1) by decide +kernel) ?_
        obtain ⟨S25, e26, h⟩ := ob h
        refine v_iast (pc := 107) e26 (show decode (tC tHe_perform) 107 = .ok (.iastore, 1) by decide +kernel) ?_
        refine v_goto (pc := 108) 275 (show decode (tC tHe_perform) 108 = .ok (.goto 167, 3) by decide +kernel) (by decide) ?_
        refine v_iinc (pc := 275) (j := 8) [(5, .int (x5 + 1)), (8, .int v13), (7, .int v9), (6, .int v5), (0, .ref x0), (1, .ref x1), (2, va_rf x2), (3, .ref x3), (4, .ref x4)] (show decode (tC tHe_perform) 275 = .ok (.iinc 5 1, 3) by decide +kernel) rfl rfl (by decide) rfl ?_
        refine v_goto (pc := 278) 3 (show decode (tC tHe_perform) 278 = .ok (.goto (-275), 3) by decide +kernel) (by decide) ?_
        refine v_sub [(0, .ref x0), (1, .ref x1), (2, va_rf x2), (3, .ref x3), (4, .ref x4), (5, .int (x5 + 1))] [4, 5, 6, 7, 8, 0] rfl ?_
        exact ih x0 x1 x2 x3 x4 (x5 + 1) S25 h
      · replace h := ite_f c0 h
        by_cases c1 : v17 = 1
        · replace h := ite_t c1 h
          refine v_tblIn (pc := 46) (off := 65) 111 (show decode (tC tHe_perform) 46 = .ok (.tableswitch 200 0 7 #[46, 65, 89, 124, 147, 156, 169, 177], 46) by decide +kernel) (by rw [c1]; decide) (by rw [c1]; decide) (by rw [c1]; decide) (by decide) ?_
          refine v_aload_n (pc := 111) (show decode (tC tHe_perform) 111 = .ok (.aload_n 0, 1) by decide +kernel) 3 rfl rfl ?_
          obtain ⟨v27, e28, h⟩ := ob h
          refine v_getX (pc := 112) oF_He_9 e28 (show decode (tC tHe_perform) 112 = .ok (.getfield 9, 3) by decide +kernel) ?_
          refine v_iload (pc := 115) (show decode (tC tHe_perform) 115 = .ok (.iload 6, 2) by decide +kernel) 2 rfl ?_
          refine v_aload_n (pc := 117) (show decode (tC tHe_perform) 117 = .ok (.aload_n 0, 1) by decide +kernel) 3 rfl rfl ?_
          obtain ⟨v29, e30, h⟩ := ob h
          refine v_getX (pc := 118) oF_He_9 e30 (show decode (tC tHe_perform) 118 = .ok (.getfield 9, 3) by decide +kernel) ?_
          refine v_iload (pc := 121) (show decode (tC tHe_perform) 121 = .ok (.iload 7, 2) by decide +kernel) 1 rfl ?_
          obtain ⟨v31, e32, h⟩ := ob h
          refine v_iald (pc := 123) e32 (show decode (tC tHe_perform) 123 = .ok (.iaload, 1) by decide +kernel) ?_
          refine v_aload_n (pc := 124) (show decode (tC tHe_perform) 124 = .ok (.aload_n 3, 1) by decide +kernel) 6 rfl rfl ?_
          refine v_iload (pc := 125) (show decode (tC tHe_perform) 125 = .ok (.iload 6, 2) by decide +kernel) 2 rfl ?_
          obtain ⟨_, e34, h⟩ := ob h
          obtain ⟨r35, S36, e33, h⟩ := ob2 h
          refine v_call (pc := 127) (v := (some (.int r35))) (y := yPr_ones) (θ' := tPr_ones) (rm := rPr_ones) (av := [.ref x3, .int v5]) (st := [.int v31, .int v5, .ref v27]) (cPr_ones (l := gl Γ) hl e33) kPr_ones iPr_ones (iv_virt (y := yPr_ones) (θ' := tPr_ones) (kd := 1) (As := [.int v5]) rfl (ckd_of e34) kPr_ones (gT_in 1142 (by decide +kernel) rfl) nPr_ones lPr_ones mPr_ones rfl (show decode (tC tHe_perform) 127 = .ok (.invokevirtual 117, 3) by decide +kernel)) ⟨by rw [hR]; decide, by rw [hR]; decide, by rw [hR]; decide, by rw [hR]; decide⟩ (Nat.le_of_ble_eq_true rfl) ?_
          refine v_iand (pc := 130) (show decode (tC tHe_perform) 130 = .ok (.iand, 1) by decide +kernel) ?_
          obtain ⟨S37, e38, h⟩ := ob h
          refine v_iast (pc := 131) e38 (show decode (tC tHe_perform) 131 = .ok (.iastore, 1) by decide +kernel) ?_
          refine v_goto (pc := 132) 275 (show decode (tC tHe_perform) 132 = .ok (.goto 143, 3) by decide +kernel) (by decide) ?_
          refine v_iinc (pc := 275) (j := 8) [(5, .int (x5 + 1)), (8, .int v13), (7, .int v9), (6, .int v5), (0, .ref x0), (1, .ref x1), (2, va_rf x2), (3, .ref x3), (4, .ref x4)] (show decode (tC tHe_perform) 275 = .ok (.iinc 5 1, 3) by decide +kernel) rfl rfl (by decide) rfl ?_
          refine v_goto (pc := 278) 3 (show decode (tC tHe_perform) 278 = .ok (.goto (-275), 3) by decide +kernel) (by decide) ?_
          refine v_sub [(0, .ref x0), (1, .ref x1), (2, va_rf x2), (3, .ref x3), (4, .ref x4), (5, .int (x5 + 1))] [4, 5, 6, 7, 8, 0] rfl ?_
          exact ih x0 x1 x2 x3 x4 (x5 + 1) S37 h
        · replace h := ite_f c1 h
          by_cases c2 : v17 = 2
          · replace h := ite_t c2 h
            refine v_tblIn (pc := 46) (off := 89) 135 (show decode (tC tHe_perform) 46 = .ok (.tableswitch 200 0 7 #[46, 65, 89, 124, 147, 156, 169, 177], 46) by decide +kernel) (by rw [c2]; decide) (by rw [c2]; decide) (by rw [c2]; decide) (by decide) ?_
            refine v_aload_n (pc := 135) (show decode (tC tHe_perform) 135 = .ok (.aload_n 0, 1) by decide +kernel) 3 rfl rfl ?_
            obtain ⟨v39, e40, h⟩ := ob h
            refine v_getX (pc := 136) oF_He_9 e40 (show decode (tC tHe_perform) 136 = .ok (.getfield 9, 3) by decide +kernel) ?_
            refine v_iload (pc := 139) (show decode (tC tHe_perform) 139 = .ok (.iload 6, 2) by decide +kernel) 2 rfl ?_
            refine v_aload_n (pc := 141) (show decode (tC tHe_perform) 141 = .ok (.aload_n 0, 1) by decide +kernel) 3 rfl rfl ?_
            obtain ⟨v41, e42, h⟩ := ob h
            refine v_getX (pc := 142) oF_He_9 e42 (show decode (tC tHe_perform) 142 = .ok (.getfield 9, 3) by decide +kernel) ?_
            refine v_iload (pc := 145) (show decode (tC tHe_perform) 145 = .ok (.iload 6, 2) by decide +kernel) 2 rfl ?_
            obtain ⟨v43, e44, h⟩ := ob h
            refine v_iald (pc := 147) e44 (show decode (tC tHe_perform) 147 = .ok (.iaload, 1) by decide +kernel) ?_
            refine v_aload_n (pc := 148) (show decode (tC tHe_perform) 148 = .ok (.aload_n 0, 1) by decide +kernel) 3 rfl rfl ?_
            obtain ⟨v45, e46, h⟩ := ob h
            refine v_getX (pc := 149) oF_He_9 e46 (show decode (tC tHe_perform) 149 = .ok (.getfield 9, 3) by decide +kernel) ?_
            refine v_iload (pc := 152) (show decode (tC tHe_perform) 152 = .ok (.iload 7, 2) by decide +kernel) 1 rfl ?_
            obtain ⟨v47, e48, h⟩ := ob h
            refine v_iald (pc := 154) e48 (show decode (tC tHe_perform) 154 = .ok (.iaload, 1) by decide +kernel) ?_
            refine v_iadd (pc := 155) (show decode (tC tHe_perform) 155 = .ok (.iadd, 1) by decide +kernel) ?_
            refine v_iload (pc := 156) (show decode (tC tHe_perform) 156 = .ok (.iload 8, 2) by decide +kernel) 0 rfl ?_
            refine v_iadd (pc := 158) (show decode (tC tHe_perform) 158 = .ok (.iadd, 1) by decide +kernel) ?_
            refine v_aload_n (pc := 159) (show decode (tC tHe_perform) 159 = .ok (.aload_n 3, 1) by decide +kernel) 6 rfl rfl ?_
            refine v_iload (pc := 160) (show decode (tC tHe_perform) 160 = .ok (.iload 6, 2) by decide +kernel) 2 rfl ?_
            obtain ⟨_, e50, h⟩ := ob h
            obtain ⟨r51, S52, e49, h⟩ := ob2 h
            refine v_call (pc := 162) (v := (some (.int r51))) (y := yPr_ones) (θ' := tPr_ones) (rm := rPr_ones) (av := [.ref x3, .int v5]) (st := [.int ((v43 + v47) + v13), .int v5, .ref v39]) (cPr_ones (l := gl Γ) hl e49) kPr_ones iPr_ones (iv_virt (y := yPr_ones) (θ' := tPr_ones) (kd := 1) (As := [.int v5]) rfl (ckd_of e50) kPr_ones (gT_in 1142 (by decide +kernel) rfl) nPr_ones lPr_ones mPr_ones rfl (show decode (tC tHe_perform) 162 = .ok (.invokevirtual 117, 3) by decide +kernel)) ⟨by rw [hR]; decide, by rw [hR]; decide, by rw [hR]; decide, by rw [hR]; decide⟩ (Nat.le_of_ble_eq_true rfl) ?_
            refine v_iand (pc := 165) (show decode (tC tHe_perform) 165 = .ok (.iand, 1) by decide +kernel) ?_
            obtain ⟨S53, e54, h⟩ := ob h
            refine v_iast (pc := 166) e54 (show decode (tC tHe_perform) 166 = .ok (.iastore, 1) by decide +kernel) ?_
            refine v_goto (pc := 167) 275 (show decode (tC tHe_perform) 167 = .ok (.goto 108, 3) by decide +kernel) (by decide) ?_
            refine v_iinc (pc := 275) (j := 8) [(5, .int (x5 + 1)), (8, .int v13), (7, .int v9), (6, .int v5), (0, .ref x0), (1, .ref x1), (2, va_rf x2), (3, .ref x3), (4, .ref x4)] (show decode (tC tHe_perform) 275 = .ok (.iinc 5 1, 3) by decide +kernel) rfl rfl (by decide) rfl ?_
            refine v_goto (pc := 278) 3 (show decode (tC tHe_perform) 278 = .ok (.goto (-275), 3) by decide +kernel) (by decide) ?_
            refine v_sub [(0, .ref x0), (1, .ref x1), (2, va_rf x2), (3, .ref x3), (4, .ref x4), (5, .int (x5 + 1))] [4, 5, 6, 7, 8, 0] rfl ?_
            exact ih x0 x1 x2 x3 x4 (x5 + 1) S53 h
          · replace h := ite_f c2 h
            by_cases c3 : v17 = 3
            · replace h := ite_t c3 h
              refine v_tblIn (pc := 46) (off := 124) 170 (show decode (tC tHe_perform) 46 = .ok (.tableswitch 200 0 7 #[46, 65, 89, 124, 147, 156, 169, 177], 46) by decide +kernel) (by rw [c3]; decide) (by rw [c3]; decide) (by rw [c3]; decide) (by decide) ?_
              refine v_aload_n (pc := 170) (show decode (tC tHe_perform) 170 = .ok (.aload_n 0, 1) by decide +kernel) 3 rfl rfl ?_
              obtain ⟨v55, e56, h⟩ := ob h
              refine v_getX (pc := 171) oF_He_9 e56 (show decode (tC tHe_perform) 171 = .ok (.getfield 9, 3) by decide +kernel) ?_
              refine v_iload (pc := 174) (show decode (tC tHe_perform) 174 = .ok (.iload 6, 2) by decide +kernel) 2 rfl ?_
              refine v_aload_nq (pc := 176) (show decode (tC tHe_perform) 176 = .ok (.aload_n 2, 1) by decide +kernel) 5 rfl rfl ?_
              refine v_iload (pc := 177) (show decode (tC tHe_perform) 177 = .ok (.iload 7, 2) by decide +kernel) 1 rfl ?_
              obtain ⟨r58, S59, e57, h⟩ := ob2 h
              refine v_call (pc := 179) (v := (some (.int r58))) (y := yHe_datum) (θ' := tHe_datum) (rm := rHe_datum) (av := [va_rf x2, .int v9]) (st := [.int v5, .ref v55]) (cHe_datum (l := gl Γ) hl e57) kHe_datum iHe_datum (iv_static (y := yHe_datum) (θ' := tHe_datum) (n := 2) (As := [va_rf x2, .int v9]) kHe_datum (gT_in 1143 (by decide +kernel) rfl) sHe_datum iHe_datum mHe_datum rfl (show decode (tC tHe_perform) 179 = .ok (.invokestatic 120, 3) by decide +kernel)) ⟨by rw [hR]; decide, by rw [hR]; decide, by rw [hR]; decide, by rw [hR]; decide⟩ (Nat.le_of_ble_eq_true rfl) ?_
              refine v_aload_n (pc := 182) (show decode (tC tHe_perform) 182 = .ok (.aload_n 3, 1) by decide +kernel) 6 rfl rfl ?_
              refine v_iload (pc := 183) (show decode (tC tHe_perform) 183 = .ok (.iload 6, 2) by decide +kernel) 2 rfl ?_
              obtain ⟨_, e61, h⟩ := ob h
              obtain ⟨r62, S63, e60, h⟩ := ob2 h
              refine v_call (pc := 185) (v := (some (.int r62))) (y := yPr_ones) (θ' := tPr_ones) (rm := rPr_ones) (av := [.ref x3, .int v5]) (st := [.int r58, .int v5, .ref v55]) (cPr_ones (l := gl Γ) hl e60) kPr_ones iPr_ones (iv_virt (y := yPr_ones) (θ' := tPr_ones) (kd := 1) (As := [.int v5]) rfl (ckd_of e61) kPr_ones (gT_in 1142 (by decide +kernel) rfl) nPr_ones lPr_ones mPr_ones rfl (show decode (tC tHe_perform) 185 = .ok (.invokevirtual 117, 3) by decide +kernel)) ⟨by rw [hR]; decide, by rw [hR]; decide, by rw [hR]; decide, by rw [hR]; decide⟩ (Nat.le_of_ble_eq_true rfl) ?_
              refine v_iand (pc := 188) (show decode (tC tHe_perform) 188 = .ok (.iand, 1) by decide +kernel) ?_
              obtain ⟨S64, e65, h⟩ := ob h
              refine v_iast (pc := 189) e65 (show decode (tC tHe_perform) 189 = .ok (.iastore, 1) by decide +kernel) ?_
              refine v_goto (pc := 190) 275 (show decode (tC tHe_perform) 190 = .ok (.goto 85, 3) by decide +kernel) (by decide) ?_
              refine v_iinc (pc := 275) (j := 8) [(5, .int (x5 + 1)), (8, .int v13), (7, .int v9), (6, .int v5), (0, .ref x0), (1, .ref x1), (2, va_rf x2), (3, .ref x3), (4, .ref x4)] (show decode (tC tHe_perform) 275 = .ok (.iinc 5 1, 3) by decide +kernel) rfl rfl (by decide) rfl ?_
              refine v_goto (pc := 278) 3 (show decode (tC tHe_perform) 278 = .ok (.goto (-275), 3) by decide +kernel) (by decide) ?_
              refine v_sub [(0, .ref x0), (1, .ref x1), (2, va_rf x2), (3, .ref x3), (4, .ref x4), (5, .int (x5 + 1))] [4, 5, 6, 7, 8, 0] rfl ?_
              exact ih x0 x1 x2 x3 x4 (x5 + 1) S64 h
            · replace h := ite_f c3 h
              by_cases c4 : v17 = 4
              · replace h := ite_t c4 h
                refine v_tblIn (pc := 46) (off := 147) 193 (show decode (tC tHe_perform) 46 = .ok (.tableswitch 200 0 7 #[46, 65, 89, 124, 147, 156, 169, 177], 46) by decide +kernel) (by rw [c4]; decide) (by rw [c4]; decide) (by rw [c4]; decide) (by decide) ?_
                refine v_aload_n (pc := 193) (show decode (tC tHe_perform) 193 = .ok (.aload_n 0, 1) by decide +kernel) 3 rfl rfl ?_
                refine v_iload (pc := 194) (show decode (tC tHe_perform) 194 = .ok (.iload 7, 2) by decide +kernel) 1 rfl ?_
                obtain ⟨S66, e67, h⟩ := ob h
                refine v_putI (pc := 196) oF_He_37 (fin_ok (kd := 11) (k := 6) (by decide +kernel)) e67 (show decode (tC tHe_perform) 196 = .ok (.putfield 37, 3) by decide +kernel) ?_
                refine v_goto (pc := 199) 275 (show decode (tC tHe_perform) 199 = .ok (.goto 76, 3) by decide +kernel) (by decide) ?_
                refine v_iinc (pc := 275) (j := 8) [(5, .int (x5 + 1)), (8, .int v13), (7, .int v9), (6, .int v5), (0, .ref x0), (1, .ref x1), (2, va_rf x2), (3, .ref x3), (4, .ref x4)] (show decode (tC tHe_perform) 275 = .ok (.iinc 5 1, 3) by decide +kernel) rfl rfl (by decide) rfl ?_
                refine v_goto (pc := 278) 3 (show decode (tC tHe_perform) 278 = .ok (.goto (-275), 3) by decide +kernel) (by decide) ?_
                refine v_sub [(0, .ref x0), (1, .ref x1), (2, va_rf x2), (3, .ref x3), (4, .ref x4), (5, .int (x5 + 1))] [4, 5, 6, 7, 8, 0] rfl ?_
                exact ih x0 x1 x2 x3 x4 (x5 + 1) S66 h
              · replace h := ite_f c4 h
                by_cases c5 : v17 = 5
                · replace h := ite_t c5 h
                  refine v_tblIn (pc := 46) (off := 156) 202 (show decode (tC tHe_perform) 46 = .ok (.tableswitch 200 0 7 #[46, 65, 89, 124, 147, 156, 169, 177], 46) by decide +kernel) (by rw [c5]; decide) (by rw [c5]; decide) (by rw [c5]; decide) (by decide) ?_
                  refine v_aload_n (pc := 202) (show decode (tC tHe_perform) 202 = .ok (.aload_n 0, 1) by decide +kernel) 3 rfl rfl ?_
                  refine v_aload_nq (pc := 203) (show decode (tC tHe_perform) 203 = .ok (.aload_n 2, 1) by decide +kernel) 5 rfl rfl ?_
                  refine v_iload (pc := 204) (show decode (tC tHe_perform) 204 = .ok (.iload 7, 2) by decide +kernel) 1 rfl ?_
                  obtain ⟨r69, S70, e68, h⟩ := ob2 h
                  refine v_call (pc := 206) (v := (some (.int r69))) (y := yHe_datum) (θ' := tHe_datum) (rm := rHe_datum) (av := [va_rf x2, .int v9]) (st := [.ref x0]) (cHe_datum (l := gl Γ) hl e68) kHe_datum iHe_datum (iv_static (y := yHe_datum) (θ' := tHe_datum) (n := 2) (As := [va_rf x2, .int v9]) kHe_datum (gT_in 1143 (by decide +kernel) rfl) sHe_datum iHe_datum mHe_datum rfl (show decode (tC tHe_perform) 206 = .ok (.invokestatic 120, 3) by decide +kernel)) ⟨by rw [hR]; decide, by rw [hR]; decide, by rw [hR]; decide, by rw [hR]; decide⟩ (Nat.le_of_ble_eq_true rfl) ?_
                  obtain ⟨S71, e72, h⟩ := ob h
                  refine v_putI (pc := 209) oF_He_37 (fin_ok (kd := 11) (k := 6) (by decide +kernel)) e72 (show decode (tC tHe_perform) 209 = .ok (.putfield 37, 3) by decide +kernel) ?_
                  refine v_goto (pc := 212) 275 (show decode (tC tHe_perform) 212 = .ok (.goto 63, 3) by decide +kernel) (by decide) ?_
                  refine v_iinc (pc := 275) (j := 8) [(5, .int (x5 + 1)), (8, .int v13), (7, .int v9), (6, .int v5), (0, .ref x0), (1, .ref x1), (2, va_rf x2), (3, .ref x3), (4, .ref x4)] (show decode (tC tHe_perform) 275 = .ok (.iinc 5 1, 3) by decide +kernel) rfl rfl (by decide) rfl ?_
                  refine v_goto (pc := 278) 3 (show decode (tC tHe_perform) 278 = .ok (.goto (-275), 3) by decide +kernel) (by decide) ?_
                  refine v_sub [(0, .ref x0), (1, .ref x1), (2, va_rf x2), (3, .ref x3), (4, .ref x4), (5, .int (x5 + 1))] [4, 5, 6, 7, 8, 0] rfl ?_
                  exact ih x0 x1 x2 x3 x4 (x5 + 1) S71 h
                · replace h := ite_f c5 h
                  by_cases c6 : v17 = 6
                  · replace h := ite_t c6 h
                    refine v_tblIn (pc := 46) (off := 169) 215 (show decode (tC tHe_perform) 46 = .ok (.tableswitch 200 0 7 #[46, 65, 89, 124, 147, 156, 169, 177], 46) by decide +kernel) (by rw [c6]; decide) (by rw [c6]; decide) (by rw [c6]; decide) (by decide) ?_
                    refine v_aload_n (pc := 215) (show decode (tC tHe_perform) 215 = .ok (.aload_n 0, 1) by decide +kernel) 3 rfl rfl ?_
                    refine v_iconst (pc := 216) (v := 1) (show decode (tC tHe_perform) 216 = .ok (.iconst 1, 1) by decide +kernel) (by decide) ?_
                    obtain ⟨S73, e74, h⟩ := ob h
                    refine v_putZ (pc := 217) oF_He_40 (fin_ok (kd := 11) (k := 7) (by decide +kernel)) e74 (show decode (tC tHe_perform) 217 = .ok (.putfield 40, 3) by decide +kernel) ?_
                    refine v_goto (pc := 220) 275 (show decode (tC tHe_perform) 220 = .ok (.goto 55, 3) by decide +kernel) (by decide) ?_
                    refine v_iinc (pc := 275) (j := 8) [(5, .int (x5 + 1)), (8, .int v13), (7, .int v9), (6, .int v5), (0, .ref x0), (1, .ref x1), (2, va_rf x2), (3, .ref x3), (4, .ref x4)] (show decode (tC tHe_perform) 275 = .ok (.iinc 5 1, 3) by decide +kernel) rfl rfl (by decide) rfl ?_
                    refine v_goto (pc := 278) 3 (show decode (tC tHe_perform) 278 = .ok (.goto (-275), 3) by decide +kernel) (by decide) ?_
                    refine v_sub [(0, .ref x0), (1, .ref x1), (2, va_rf x2), (3, .ref x3), (4, .ref x4), (5, .int (x5 + 1))] [4, 5, 6, 7, 8, 0] rfl ?_
                    exact ih x0 x1 x2 x3 x4 (x5 + 1) S73 h
                  · replace h := ite_f c6 h
                    by_cases c7 : v17 = 7
                    · replace h := ite_t c7 h
                      refine v_tblIn (pc := 46) (off := 177) 223 (show decode (tC tHe_perform) 46 = .ok (.tableswitch 200 0 7 #[46, 65, 89, 124, 147, 156, 169, 177], 46) by decide +kernel) (by rw [c7]; decide) (by rw [c7]; decide) (by rw [c7]; decide) (by decide) ?_
                      refine v_aload (pc := 223) (show decode (tC tHe_perform) 223 = .ok (.aload 4, 2) by decide +kernel) 7 rfl ?_
                      refine v_iload (pc := 225) (show decode (tC tHe_perform) 225 = .ok (.iload 6, 2) by decide +kernel) 2 rfl ?_
                      refine v_aload_n (pc := 227) (show decode (tC tHe_perform) 227 = .ok (.aload_n 0, 1) by decide +kernel) 3 rfl rfl ?_
                      obtain ⟨v75, e76, h⟩ := ob h
                      refine v_getX (pc := 228) oF_He_9 e76 (show decode (tC tHe_perform) 228 = .ok (.getfield 9, 3) by decide +kernel) ?_
                      refine v_iload (pc := 231) (show decode (tC tHe_perform) 231 = .ok (.iload 7, 2) by decide +kernel) 1 rfl ?_
                      obtain ⟨v77, e78, h⟩ := ob h
                      refine v_iald (pc := 233) e78 (show decode (tC tHe_perform) 233 = .ok (.iaload, 1) by decide +kernel) ?_
                      obtain ⟨r80, S81, e79, h⟩ := ob2 h
                      refine v_call (pc := 234) (v := (some (.int r80))) (y := yHe_wordOf) (θ' := tHe_wordOf) (rm := rHe_wordOf) (av := [.int v5, .int v77]) (st := [.ref x4]) (cHe_wordOf (l := gl Γ) hl e79) kHe_wordOf iHe_wordOf (iv_static (y := yHe_wordOf) (θ' := tHe_wordOf) (n := 2) (As := [.int v5, .int v77]) kHe_wordOf (gT_in 1146 (by decide +kernel) rfl) sHe_wordOf iHe_wordOf mHe_wordOf rfl (show decode (tC tHe_perform) 234 = .ok (.invokestatic 124, 3) by decide +kernel)) ⟨by rw [hR]; decide, by rw [hR]; decide, by rw [hR]; decide, by rw [hR]; decide⟩ (Nat.le_of_ble_eq_true rfl) ?_
                      refine v_dup2_11 (pc := 237) (show decode (tC tHe_perform) 237 = .ok (.dup2, 1) by decide +kernel) rfl rfl ?_
                      obtain ⟨v82, e83, h⟩ := ob h
                      refine v_iald (pc := 238) e83 (show decode (tC tHe_perform) 238 = .ok (.iaload, 1) by decide +kernel) ?_
                      refine v_iload (pc := 239) (show decode (tC tHe_perform) 239 = .ok (.iload 8, 2) by decide +kernel) 0 rfl ?_
                      refine v_iadd (pc := 241) (show decode (tC tHe_perform) 241 = .ok (.iadd, 1) by decide +kernel) ?_
                      obtain ⟨S84, e85, h⟩ := ob h
                      refine v_iast (pc := 242) e85 (show decode (tC tHe_perform) 242 = .ok (.iastore, 1) by decide +kernel) ?_
                      refine v_goto (pc := 243) 275 (show decode (tC tHe_perform) 243 = .ok (.goto 32, 3) by decide +kernel) (by decide) ?_
                      refine v_iinc (pc := 275) (j := 8) [(5, .int (x5 + 1)), (8, .int v13), (7, .int v9), (6, .int v5), (0, .ref x0), (1, .ref x1), (2, va_rf x2), (3, .ref x3), (4, .ref x4)] (show decode (tC tHe_perform) 275 = .ok (.iinc 5 1, 3) by decide +kernel) rfl rfl (by decide) rfl ?_
                      refine v_goto (pc := 278) 3 (show decode (tC tHe_perform) 278 = .ok (.goto (-275), 3) by decide +kernel) (by decide) ?_
                      refine v_sub [(0, .ref x0), (1, .ref x1), (2, va_rf x2), (3, .ref x3), (4, .ref x4), (5, .int (x5 + 1))] [4, 5, 6, 7, 8, 0] rfl ?_
                      exact ih x0 x1 x2 x3 x4 (x5 + 1) S84 h
                    · replace h := ite_f c7 h
                      refine v_tblOut (pc := 46) 246 (show decode (tC tHe_perform) 46 = .ok (.tableswitch 200 0 7 #[46, 65, 89, 124, 147, 156, 169, 177], 46) by decide +kernel) (tbl_out 8 (fun i hi => match i, hi with | 0, _ => by have := toInt_ne c0; exact this | 1, _ => by have := toInt_ne c1; exact this | 2, _ => by have := toInt_ne c2; exact this | 3, _ => by have := toInt_ne c3; exact this | 4, _ => by have := toInt_ne c4; exact this | 5, _ => by have := toInt_ne c5; exact this | 6, _ => by have := toInt_ne c6; exact this | 7, _ => by have := toInt_ne c7; exact this | i + 8, hi => absurd hi (by omega)) (by decide)) (by decide) ?_
                      refine v_aload_n (pc := 246) (show decode (tC tHe_perform) 246 = .ok (.aload_n 0, 1) by decide +kernel) 3 rfl rfl ?_
                      obtain ⟨v86, e87, h⟩ := ob h
                      refine v_getX (pc := 247) oF_He_9 e87 (show decode (tC tHe_perform) 247 = .ok (.getfield 9, 3) by decide +kernel) ?_
                      refine v_iload (pc := 250) (show decode (tC tHe_perform) 250 = .ok (.iload 6, 2) by decide +kernel) 2 rfl ?_
                      refine v_aload (pc := 252) (show decode (tC tHe_perform) 252 = .ok (.aload 4, 2) by decide +kernel) 7 rfl ?_
                      refine v_iload (pc := 254) (show decode (tC tHe_perform) 254 = .ok (.iload 8, 2) by decide +kernel) 0 rfl ?_
                      refine v_aload_n (pc := 256) (show decode (tC tHe_perform) 256 = .ok (.aload_n 0, 1) by decide +kernel) 3 rfl rfl ?_
                      obtain ⟨v88, e89, h⟩ := ob h
                      refine v_getX (pc := 257) oF_He_9 e89 (show decode (tC tHe_perform) 257 = .ok (.getfield 9, 3) by decide +kernel) ?_
                      refine v_iload (pc := 260) (show decode (tC tHe_perform) 260 = .ok (.iload 7, 2) by decide +kernel) 1 rfl ?_
                      obtain ⟨v90, e91, h⟩ := ob h
                      refine v_iald (pc := 262) e91 (show decode (tC tHe_perform) 262 = .ok (.iaload, 1) by decide +kernel) ?_
                      obtain ⟨r93, S94, e92, h⟩ := ob2 h
                      refine v_call (pc := 263) (v := (some (.int r93))) (y := yHe_wordOf) (θ' := tHe_wordOf) (rm := rHe_wordOf) (av := [.int v13, .int v90]) (st := [.ref x4, .int v5, .ref v86]) (cHe_wordOf (l := gl Γ) hl e92) kHe_wordOf iHe_wordOf (iv_static (y := yHe_wordOf) (θ' := tHe_wordOf) (n := 2) (As := [.int v13, .int v90]) kHe_wordOf (gT_in 1146 (by decide +kernel) rfl) sHe_wordOf iHe_wordOf mHe_wordOf rfl (show decode (tC tHe_perform) 263 = .ok (.invokestatic 124, 3) by decide +kernel)) ⟨by rw [hR]; decide, by rw [hR]; decide, by rw [hR]; decide, by rw [hR]; decide⟩ (Nat.le_of_ble_eq_true rfl) ?_
                      obtain ⟨v95, e96, h⟩ := ob h
                      refine v_iald (pc := 266) e96 (show decode (tC tHe_perform) 266 = .ok (.iaload, 1) by decide +kernel) ?_
                      refine v_aload_n (pc := 267) (show decode (tC tHe_perform) 267 = .ok (.aload_n 3, 1) by decide +kernel) 6 rfl rfl ?_
                      refine v_iload (pc := 268) (show decode (tC tHe_perform) 268 = .ok (.iload 6, 2) by decide +kernel) 2 rfl ?_
                      obtain ⟨_, e98, h⟩ := ob h
                      obtain ⟨r99, S100, e97, h⟩ := ob2 h
                      refine v_call (pc := 270) (v := (some (.int r99))) (y := yPr_ones) (θ' := tPr_ones) (rm := rPr_ones) (av := [.ref x3, .int v5]) (st := [.int v95, .int v5, .ref v86]) (cPr_ones (l := gl Γ) hl e97) kPr_ones iPr_ones (iv_virt (y := yPr_ones) (θ' := tPr_ones) (kd := 1) (As := [.int v5]) rfl (ckd_of e98) kPr_ones (gT_in 1142 (by decide +kernel) rfl) nPr_ones lPr_ones mPr_ones rfl (show decode (tC tHe_perform) 270 = .ok (.invokevirtual 117, 3) by decide +kernel)) ⟨by rw [hR]; decide, by rw [hR]; decide, by rw [hR]; decide, by rw [hR]; decide⟩ (Nat.le_of_ble_eq_true rfl) ?_
                      refine v_iand (pc := 273) (show decode (tC tHe_perform) 273 = .ok (.iand, 1) by decide +kernel) ?_
                      obtain ⟨S101, e102, h⟩ := ob h
                      refine v_iast (pc := 274) e102 (show decode (tC tHe_perform) 274 = .ok (.iastore, 1) by decide +kernel) ?_
                      refine v_iinc (pc := 275) (j := 8) [(5, .int (x5 + 1)), (8, .int v13), (7, .int v9), (6, .int v5), (0, .ref x0), (1, .ref x1), (2, va_rf x2), (3, .ref x3), (4, .ref x4)] (show decode (tC tHe_perform) 275 = .ok (.iinc 5 1, 3) by decide +kernel) rfl rfl (by decide) rfl ?_
                      refine v_goto (pc := 278) 3 (show decode (tC tHe_perform) 278 = .ok (.goto (-275), 3) by decide +kernel) (by decide) ?_
                      refine v_sub [(0, .ref x0), (1, .ref x1), (2, va_rf x2), (3, .ref x3), (4, .ref x4), (5, .int (x5 + 1))] [4, 5, 6, 7, 8, 0] rfl ?_
                      exact ih x0 x1 x2 x3 x4 (x5 + 1) S101 h
def fHe_perform (x0 : Nat) (x1 : Nat) (x2 : Option Nat) (x3 : Nat) (x4 : Nat) (S : Sx) : Option (Sx) :=
    fHe_perform_3  fuel x0 x1 x2 x3 x4 0 S
set_option maxRecDepth 100000 in
set_option maxHeartbeats 4000000 in
theorem wHe_perform {Γ : vG} (hR : gR Γ = rHe_perform) (hl : (gl Γ).flags = pinnedFlags ++ [noTraceFlag]) (x0 : Nat) (x1 : Nat) (x2 : Option Nat) (x3 : Nat) (x4 : Nat) (S : Sx) {X : Sx} (h : fHe_perform x0 x1 x2 x3 x4 S = some X) : vV Γ tHe_perform (mQ Γ 0 0 0 none X) S 0 0 0 [(0, .ref x0), (1, .ref x1), (2, va_rf x2), (3, .ref x3), (4, .ref x4)] [] := by
  unfold fHe_perform at h
  refine v_iconst (pc := 0) (v := 0) (show decode (tC tHe_perform) 0 = .ok (.iconst 0, 1) by decide +kernel) (by decide) ?_
  refine v_istore (pc := 1) [(5, .int 0), (0, .ref x0), (1, .ref x1), (2, va_rf x2), (3, .ref x3), (4, .ref x4)] (show decode (tC tHe_perform) 1 = .ok (.istore 5, 2) by decide +kernel) (by decide) rfl ?_
  refine v_sub [(0, .ref x0), (1, .ref x1), (2, va_rf x2), (3, .ref x3), (4, .ref x4), (5, .int 0)] [1, 2, 3, 4, 5, 0] rfl ?_
  exact wHe_perform_3 hR hl  fuel x0 x1 x2 x3 x4 0 S h
theorem cHe_perform {l : Launch} (hl : l.flags = pinnedFlags ++ [noTraceFlag]) {D : va_G} {dA : Nat → ClassId} {B : Nat} {x0 : Nat} {x1 : Nat} {x2 : Option Nat} {x3 : Nat} {x4 : Nat} {S : Sx} {X : Sx} (h : fHe_perform x0 x1 x2 x3 x4 S = some X) : Mx l yHe_perform tHe_perform rHe_perform 0 0 D dA B S [.ref x0, .ref x1, va_rf x2, .ref x3, .ref x4] 0 none X :=
  mx_of hl (by decide) rfl rfl (by cases x2 <;> exact Nat.le_of_ble_eq_true rfl) (fun Γ e1 e2 e3 e4 e5 => by subst e1; subst e3; subst e4; subst e5; cases x2 <;> exact wHe_perform e2 hl x0 x1 _ x3 x4 S h)
