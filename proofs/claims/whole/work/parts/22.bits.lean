theorem oF_Bi_9 : okF "MatchPipe$Bits" 9 10 0 1 := ⟨_, rfl, by decide, gT_in 385 (by decide +kernel) rfl, rfl⟩
/-! MatchPipe$Bits.zero()V -/
def yBi_zero : MethodName := ⟨"MatchPipe$Bits", "zero", "()V"⟩
def tBi_zero : tM := (prog_3_method_2_code, "MatchPipe$Bits", 1, "zero", none, [])
def rBi_zero : Room := { frames := 1, cells := 0, slots := 0, locals := 23 }
theorem kBi_zero : cOf yBi_zero tBi_zero ∈ gT := gT_in 550 (by decide +kernel) rfl
theorem iBi_zero : Cond.initialized yBi_zero.cls ∈ gT := gT_in 65 (by decide +kernel) rfl
theorem mBi_zero : okM yBi_zero 0 := ⟨by decide, by decide, by unfold nPar; decide +kernel⟩
theorem nBi_zero : Cond.instanceMethod yBi_zero ∈ gT := gT_in 548 (by decide +kernel) rfl
theorem lBi_zero : Cond.selects "MatchPipe$Bits" yBi_zero yBi_zero ∈ gT := gT_in 549 (by decide +kernel) rfl
def fBi_zero (x0 : Nat) (S : Sx) : Option (Sx) :=
    (gX S 10 0 x0).bind fun v1 =>
    (fJA_fill v1 0 S).bind fun S4 =>
    some S4
set_option maxRecDepth 100000 in
set_option maxHeartbeats 4000000 in
theorem wBi_zero {Γ : vG} (hR : gR Γ = rBi_zero) (hl : (gl Γ).flags = pinnedFlags ++ [noTraceFlag]) (x0 : Nat) (S : Sx) {X : Sx} (h : fBi_zero x0 S = some X) : vV Γ tBi_zero (mQ Γ 0 0 0 none X) S 0 0 0 [(0, .ref x0)] [] := by
  unfold fBi_zero at h
  refine v_aload_n (pc := 0) (show decode (tC tBi_zero) 0 = .ok (.aload_n 0, 1) by decide +kernel) 0 rfl rfl ?_
  obtain ⟨v1, e2, h⟩ := ob h
  refine v_getX (pc := 1) oF_Bi_9 e2 (show decode (tC tBi_zero) 1 = .ok (.getfield 9, 3) by decide +kernel) ?_
  refine v_iconst (pc := 4) (v := 0) (show decode (tC tBi_zero) 4 = .ok (.iconst 0, 1) by decide +kernel) (by decide) ?_
  obtain ⟨S4, e3, h⟩ := ob h
  refine v_call (pc := 5) (v := none) (y := yJA_fill) (θ' := tJA_fill) (rm := rJA_fill) (av := [.ref v1, .int 0]) (st := []) (cJA_fill (l := gl Γ) hl e3) kJA_fill iJA_fill (iv_static (y := yJA_fill) (θ' := tJA_fill) (n := 2) (As := [.ref v1, .int 0]) kJA_fill (gT_in 551 (by decide +kernel) rfl) sJA_fill iJA_fill mJA_fill rfl (show decode (tC tBi_zero) 5 = .ok (.invokestatic 15, 3) by decide +kernel)) ⟨by rw [hR]; decide, by rw [hR]; decide, by rw [hR]; decide, by rw [hR]; decide⟩ (Nat.le_of_ble_eq_true rfl) ?_
  obtain rfl := Option.some.inj h
  refine v_wide (ce2 := 0) (sl2 := 0) (by decide) (by decide) ?_
  exact v_vret (pc := 8) rfl (show decode (tC tBi_zero) 8 = .ok (.return_, 1) by decide +kernel)
theorem cBi_zero {l : Launch} (hl : l.flags = pinnedFlags ++ [noTraceFlag]) {D : va_G} {dA : Nat → ClassId} {B : Nat} {x0 : Nat} {S : Sx} {X : Sx} (h : fBi_zero x0 S = some X) : Mx l yBi_zero tBi_zero rBi_zero 0 0 D dA B S [.ref x0] 0 none X :=
  mx_of hl (by decide) rfl rfl (Nat.le_of_ble_eq_true rfl) (fun Γ e1 e2 e3 e4 e5 => by subst e1; subst e3; subst e4; subst e5; exact wBi_zero e2 hl x0 S h)
/-! MatchPipe$Bits.isOutside(II)Z -/
def yBi_isOutside : MethodName := ⟨"MatchPipe$Bits", "isOutside", "(II)Z"⟩
def tBi_isOutside : tM := (prog_3_method_6_code, "MatchPipe$Bits", 3, "isOutside", some .boolean, [])
def rBi_isOutside : Room := { frames := 0, cells := 0, slots := 0, locals := 0 }
theorem kBi_isOutside : cOf yBi_isOutside tBi_isOutside ∈ gT := gT_in 575 (by decide +kernel) rfl
theorem iBi_isOutside : Cond.initialized yBi_isOutside.cls ∈ gT := gT_in 65 (by decide +kernel) rfl
theorem mBi_isOutside : okM yBi_isOutside 2 := ⟨by decide, by decide, by unfold nPar; decide +kernel⟩
theorem nBi_isOutside : Cond.instanceMethod yBi_isOutside ∈ gT := gT_in 574 (by decide +kernel) rfl
theorem lBi_isOutside : Cond.selects "MatchPipe$Bits" yBi_isOutside yBi_isOutside ∈ gT := gT_in 0 (by decide +kernel) rfl
def fBi_isOutside (x0 : Nat) (x1 : Int32) (x2 : Int32) (S : Sx) : Option (Int32 × Sx) :=
    if x2 < 1 then
    (some (1, S))
    else
    (if (32 : Int32) < x2 then
    (some (1, S))
    else
    (if x1 < 0 then
    (some (1, S))
    else
    ((gX S 10 0 x0).bind fun v1 =>
    (lnI S v1).bind fun v3 =>
    if x1 ≤ ((32 * v3) - x2) then
    (some (0, S))
    else
    (some (1, S)))))
set_option maxRecDepth 100000 in
set_option maxHeartbeats 4000000 in
theorem wBi_isOutside {Γ : vG} (hR : gR Γ = rBi_isOutside) (hl : (gl Γ).flags = pinnedFlags ++ [noTraceFlag]) (x0 : Nat) (x1 : Int32) (x2 : Int32) (S : Sx) {X : Int32 × Sx} (h : fBi_isOutside x0 x1 x2 S = some X) : vV Γ tBi_isOutside (mQ Γ 0 0 0 (some (.int X.1)) X.2) S 0 0 0 [(0, .ref x0), (1, .int x1), (2, .int x2)] [] := by
  unfold fBi_isOutside at h
  refine v_iload_n (pc := 0) (show decode (tC tBi_isOutside) 0 = .ok (.iload_n 2, 1) by decide +kernel) 2 rfl rfl ?_
  refine v_iconst (pc := 1) (v := 1) (show decode (tC tBi_isOutside) 1 = .ok (.iconst 1, 1) by decide +kernel) (by decide) ?_
  refine v_icmp_lt (pc := 2) 29 (show decode (tC tBi_isOutside) 2 = .ok (.if_icmp .lt 27, 3) by decide +kernel) (by decide) (fun c => ?_) (fun c => ?_)
  · replace h := ite_t c h
    refine v_iconst (pc := 29) (v := 1) (show decode (tC tBi_isOutside) 29 = .ok (.iconst 1, 1) by decide +kernel) (by decide) ?_
    refine v_goto (pc := 30) 34 (show decode (tC tBi_isOutside) 30 = .ok (.goto 4, 3) by decide +kernel) (by decide) ?_
    obtain rfl := Option.some.inj h
    refine v_wide (ce2 := 0) (sl2 := 0) (by decide) (by decide) ?_
    exact v_zret (pc := 34) rfl (Or.inr rfl) (show decode (tC tBi_isOutside) 34 = .ok (.ireturn, 1) by decide +kernel)
  · replace h := ite_f c h
    refine v_iload_n (pc := 5) (show decode (tC tBi_isOutside) 5 = .ok (.iload_n 2, 1) by decide +kernel) 2 rfl rfl ?_
    refine v_bipush (pc := 6) (v := 32) (show decode (tC tBi_isOutside) 6 = .ok (.bipush 32, 2) by decide +kernel) (by decide) ?_
    refine v_icmp_gt (pc := 8) 29 (show decode (tC tBi_isOutside) 8 = .ok (.if_icmp .gt 21, 3) by decide +kernel) (by decide) (fun c => ?_) (fun c => ?_)
    · replace h := ite_t c h
      refine v_iconst (pc := 29) (v := 1) (show decode (tC tBi_isOutside) 29 = .ok (.iconst 1, 1) by decide +kernel) (by decide) ?_
      refine v_goto (pc := 30) 34 (show decode (tC tBi_isOutside) 30 = .ok (.goto 4, 3) by decide +kernel) (by decide) ?_
      obtain rfl := Option.some.inj h
      refine v_wide (ce2 := 0) (sl2 := 0) (by decide) (by decide) ?_
      exact v_zret (pc := 34) rfl (Or.inr rfl) (show decode (tC tBi_isOutside) 34 = .ok (.ireturn, 1) by decide +kernel)
    · replace h := ite_f c h
      refine v_iload_n (pc := 11) (show decode (tC tBi_isOutside) 11 = .ok (.iload_n 1, 1) by decide +kernel) 1 rfl rfl ?_
      refine v_if_lt (pc := 12) 29 (show decode (tC tBi_isOutside) 12 = .ok (.ifCond .lt 17, 3) by decide +kernel) (by decide) (fun c => ?_) (fun c => ?_)
      · replace h := ite_t c h
        refine v_iconst (pc := 29) (v := 1) (show decode (tC tBi_isOutside) 29 = .ok (.iconst 1, 1) by decide +kernel) (by decide) ?_
        refine v_goto (pc := 30) 34 (show decode (tC tBi_isOutside) 30 = .ok (.goto 4, 3) by decide +kernel) (by decide) ?_
        obtain rfl := Option.some.inj h
        refine v_wide (ce2 := 0) (sl2 := 0) (by decide) (by decide) ?_
        exact v_zret (pc := 34) rfl (Or.inr rfl) (show decode (tC tBi_isOutside) 34 = .ok (.ireturn, 1) by decide +kernel)
      · replace h := ite_f c h
        refine v_iload_n (pc := 15) (show decode (tC tBi_isOutside) 15 = .ok (.iload_n 1, 1) by decide +kernel) 1 rfl rfl ?_
        refine v_bipush (pc := 16) (v := 32) (show decode (tC tBi_isOutside) 16 = .ok (.bipush 32, 2) by decide +kernel) (by decide) ?_
        refine v_aload_n (pc := 18) (show decode (tC tBi_isOutside) 18 = .ok (.aload_n 0, 1) by decide +kernel) 0 rfl rfl ?_
        obtain ⟨v1, e2, h⟩ := ob h
        refine v_getX (pc := 19) oF_Bi_9 e2 (show decode (tC tBi_isOutside) 19 = .ok (.getfield 9, 3) by decide +kernel) ?_
        obtain ⟨v3, e4, h⟩ := ob h
        refine v_alen (pc := 22) e4 (show decode (tC tBi_isOutside) 22 = .ok (.arraylength, 1) by decide +kernel) ?_
        refine v_imul (pc := 23) (show decode (tC tBi_isOutside) 23 = .ok (.imul, 1) by decide +kernel) ?_
        refine v_iload_n (pc := 24) (show decode (tC tBi_isOutside) 24 = .ok (.iload_n 2, 1) by decide +kernel) 2 rfl rfl ?_
        refine v_isub (pc := 25) (show decode (tC tBi_isOutside) 25 = .ok (.isub, 1) by decide +kernel) ?_
        refine v_icmp_le (pc := 26) 33 (show decode (tC tBi_isOutside) 26 = .ok (.if_icmp .le 7, 3) by decide +kernel) (by decide) (fun c => ?_) (fun c => ?_)
        · replace h := ite_t c h
          refine v_iconst (pc := 33) (v := 0) (show decode (tC tBi_isOutside) 33 = .ok (.iconst 0, 1) by decide +kernel) (by decide) ?_
          obtain rfl := Option.some.inj h
          refine v_wide (ce2 := 0) (sl2 := 0) (by decide) (by decide) ?_
          exact v_zret (pc := 34) rfl (Or.inl rfl) (show decode (tC tBi_isOutside) 34 = .ok (.ireturn, 1) by decide +kernel)
        · replace h := ite_f c h
          refine v_iconst (pc := 29) (v := 1) (show decode (tC tBi_isOutside) 29 = .ok (.iconst 1, 1) by decide +kernel) (by decide) ?_
          refine v_goto (pc := 30) 34 (show decode (tC tBi_isOutside) 30 = .ok (.goto 4, 3) by decide +kernel) (by decide) ?_
          obtain rfl := Option.some.inj h
          refine v_wide (ce2 := 0) (sl2 := 0) (by decide) (by decide) ?_
          exact v_zret (pc := 34) rfl (Or.inr rfl) (show decode (tC tBi_isOutside) 34 = .ok (.ireturn, 1) by decide +kernel)
theorem cBi_isOutside {l : Launch} (hl : l.flags = pinnedFlags ++ [noTraceFlag]) {D : va_G} {dA : Nat → ClassId} {B : Nat} {x0 : Nat} {x1 : Int32} {x2 : Int32} {S : Sx} {X : Int32 × Sx} (h : fBi_isOutside x0 x1 x2 S = some X) : Mx l yBi_isOutside tBi_isOutside rBi_isOutside 0 0 D dA B S [.ref x0, .int x1, .int x2] 0 (some (.int X.1)) X.2 :=
  mx_of hl (by decide) rfl rfl (Nat.le_of_ble_eq_true rfl) (fun Γ e1 e2 e3 e4 e5 => by subst e1; subst e3; subst e4; subst e5; exact wBi_isOutside e2 hl x0 x1 x2 S h)
/-! MatchPipe$Bits.pairAt(I)J -/
def yBi_pairAt : MethodName := ⟨"MatchPipe$Bits", "pairAt", "(I)J"⟩
def tBi_pairAt : tM := (prog_3_method_7_code, "MatchPipe$Bits", 4, "pairAt", some .long, [])
def rBi_pairAt : Room := { frames := 0, cells := 0, slots := 0, locals := 0 }
theorem kBi_pairAt : cOf yBi_pairAt tBi_pairAt ∈ gT := gT_in 579 (by decide +kernel) rfl
theorem iBi_pairAt : Cond.initialized yBi_pairAt.cls ∈ gT := gT_in 65 (by decide +kernel) rfl
theorem mBi_pairAt : okM yBi_pairAt 1 := ⟨by decide, by decide, by unfold nPar; decide +kernel⟩
theorem nBi_pairAt : Cond.instanceMethod yBi_pairAt ∈ gT := gT_in 578 (by decide +kernel) rfl
theorem lBi_pairAt : Cond.selects "MatchPipe$Bits" yBi_pairAt yBi_pairAt ∈ gT := gT_in 1 (by decide +kernel) rfl
def fBi_pairAt_28  (x0 : Nat) (x1 : Int32) (z0 : Int64) (S : Sx) : Option (Int64 × Sx) :=
    (gX S 10 0 x0).bind fun v1 =>
    (aI S v1 x1).bind fun v3 =>
    some ((lshl (Int32.toInt64 v3) 32) ||| z0, S)
set_option maxRecDepth 100000 in
set_option maxHeartbeats 4000000 in
theorem wBi_pairAt_28 {Γ : vG} (hR : gR Γ = rBi_pairAt) (hl : (gl Γ).flags = pinnedFlags ++ [noTraceFlag]) {X : Int64 × Sx}  : ∀ (x0 : Nat) (x1 : Int32) (z0 : Int64) (S : Sx), fBi_pairAt_28  x0 x1 z0 S = some X → vV Γ tBi_pairAt (mQ Γ 0 0 0 (some (.long X.1)) X.2) S 0 0 28 [(0, .ref x0), (1, .int x1)] [.long z0] := by
  intro x0 x1 z0 S h
  unfold fBi_pairAt_28 at h
  refine v_lstore_n (pc := 28) [(2, .long z0), (0, .ref x0), (1, .int x1)] (show decode (tC tBi_pairAt) 28 = .ok (.lstore_n 2, 1) by decide +kernel) rfl (by decide) rfl ?_
  refine v_aload_n (pc := 29) (show decode (tC tBi_pairAt) 29 = .ok (.aload_n 0, 1) by decide +kernel) 1 rfl rfl ?_
  obtain ⟨v1, e2, h⟩ := ob h
  refine v_getX (pc := 30) oF_Bi_9 e2 (show decode (tC tBi_pairAt) 30 = .ok (.getfield 9, 3) by decide +kernel) ?_
  refine v_iload_n (pc := 33) (show decode (tC tBi_pairAt) 33 = .ok (.iload_n 1, 1) by decide +kernel) 2 rfl rfl ?_
  obtain ⟨v3, e4, h⟩ := ob h
  refine v_iald (pc := 34) e4 (show decode (tC tBi_pairAt) 34 = .ok (.iaload, 1) by decide +kernel) ?_
  refine v_i2l (pc := 35) (show decode (tC tBi_pairAt) 35 = .ok (.i2l, 1) by decide +kernel) ?_
  refine v_bipush (pc := 36) (v := 32) (show decode (tC tBi_pairAt) 36 = .ok (.bipush 32, 2) by decide +kernel) (by decide) ?_
  refine v_lshl (pc := 38) (show decode (tC tBi_pairAt) 38 = .ok (.lshl, 1) by decide +kernel) ?_
  refine v_lload_n (pc := 39) (show decode (tC tBi_pairAt) 39 = .ok (.lload_n 2, 1) by decide +kernel) 0 rfl rfl ?_
  refine v_lor (pc := 40) (show decode (tC tBi_pairAt) 40 = .ok (.lor, 1) by decide +kernel) ?_
  obtain rfl := Option.some.inj h
  refine v_wide (ce2 := 0) (sl2 := 0) (by decide) (by decide) ?_
  exact v_lret (pc := 41) rfl (show decode (tC tBi_pairAt) 41 = .ok (.lreturn, 1) by decide +kernel)
def fBi_pairAt (x0 : Nat) (x1 : Int32) (S : Sx) : Option (Int64 × Sx) :=
    (gX S 10 0 x0).bind fun v1 =>
    (lnI S v1).bind fun v3 =>
    if v3 ≤ (x1 + 1) then
    (fBi_pairAt_28  x0 x1 (0 : Int64) S)
    else
    ((gX S 10 0 x0).bind fun v5 =>
    (aI S v5 (x1 + 1)).bind fun v7 =>
    fBi_pairAt_28  x0 x1 ((Int32.toInt64 v7) &&& (4294967295 : Int64)) S)
set_option maxRecDepth 100000 in
set_option maxHeartbeats 4000000 in
theorem wBi_pairAt {Γ : vG} (hR : gR Γ = rBi_pairAt) (hl : (gl Γ).flags = pinnedFlags ++ [noTraceFlag]) (x0 : Nat) (x1 : Int32) (S : Sx) {X : Int64 × Sx} (h : fBi_pairAt x0 x1 S = some X) : vV Γ tBi_pairAt (mQ Γ 0 0 0 (some (.long X.1)) X.2) S 0 0 0 [(0, .ref x0), (1, .int x1)] [] := by
  unfold fBi_pairAt at h
  refine v_iload_n (pc := 0) (show decode (tC tBi_pairAt) 0 = .ok (.iload_n 1, 1) by decide +kernel) 1 rfl rfl ?_
  refine v_iconst (pc := 1) (v := 1) (show decode (tC tBi_pairAt) 1 = .ok (.iconst 1, 1) by decide +kernel) (by decide) ?_
  refine v_iadd (pc := 2) (show decode (tC tBi_pairAt) 2 = .ok (.iadd, 1) by decide +kernel) ?_
  refine v_aload_n (pc := 3) (show decode (tC tBi_pairAt) 3 = .ok (.aload_n 0, 1) by decide +kernel) 0 rfl rfl ?_
  obtain ⟨v1, e2, h⟩ := ob h
  refine v_getX (pc := 4) oF_Bi_9 e2 (show decode (tC tBi_pairAt) 4 = .ok (.getfield 9, 3) by decide +kernel) ?_
  obtain ⟨v3, e4, h⟩ := ob h
  refine v_alen (pc := 7) e4 (show decode (tC tBi_pairAt) 7 = .ok (.arraylength, 1) by decide +kernel) ?_
  refine v_icmp_ge (pc := 8) 27 (show decode (tC tBi_pairAt) 8 = .ok (.if_icmp .ge 19, 3) by decide +kernel) (by decide) (fun c => ?_) (fun c => ?_)
  · replace h := ite_t c h
    refine v_lconst (pc := 27) (v := 0) (show decode (tC tBi_pairAt) 27 = .ok (.lconst 0, 1) by decide +kernel) (by decide) ?_
    exact wBi_pairAt_28 hR hl  x0 x1 (0 : Int64) S h
  · replace h := ite_f c h
    refine v_aload_n (pc := 11) (show decode (tC tBi_pairAt) 11 = .ok (.aload_n 0, 1) by decide +kernel) 0 rfl rfl ?_
    obtain ⟨v5, e6, h⟩ := ob h
    refine v_getX (pc := 12) oF_Bi_9 e6 (show decode (tC tBi_pairAt) 12 = .ok (.getfield 9, 3) by decide +kernel) ?_
    refine v_iload_n (pc := 15) (show decode (tC tBi_pairAt) 15 = .ok (.iload_n 1, 1) by decide +kernel) 1 rfl rfl ?_
    refine v_iconst (pc := 16) (v := 1) (show decode (tC tBi_pairAt) 16 = .ok (.iconst 1, 1) by decide +kernel) (by decide) ?_
    refine v_iadd (pc := 17) (show decode (tC tBi_pairAt) 17 = .ok (.iadd, 1) by decide +kernel) ?_
    obtain ⟨v7, e8, h⟩ := ob h
    refine v_iald (pc := 18) e8 (show decode (tC tBi_pairAt) 18 = .ok (.iaload, 1) by decide +kernel) ?_
    refine v_i2l (pc := 19) (show decode (tC tBi_pairAt) 19 = .ok (.i2l, 1) by decide +kernel) ?_
    refine v_ldc2 (pc := 20) (v := 4294967295) (gT_in 580 (by decide +kernel) rfl) (show decode (tC tBi_pairAt) 20 = .ok (.ldc2_w 37, 3) by decide +kernel) ?_
    refine v_land (pc := 23) (show decode (tC tBi_pairAt) 23 = .ok (.land, 1) by decide +kernel) ?_
    refine v_goto (pc := 24) 28 (show decode (tC tBi_pairAt) 24 = .ok (.goto 4, 3) by decide +kernel) (by decide) ?_
    exact wBi_pairAt_28 hR hl  x0 x1 ((Int32.toInt64 v7) &&& (4294967295 : Int64)) S h
theorem cBi_pairAt {l : Launch} (hl : l.flags = pinnedFlags ++ [noTraceFlag]) {D : va_G} {dA : Nat → ClassId} {B : Nat} {x0 : Nat} {x1 : Int32} {S : Sx} {X : Int64 × Sx} (h : fBi_pairAt x0 x1 S = some X) : Mx l yBi_pairAt tBi_pairAt rBi_pairAt 0 0 D dA B S [.ref x0, .int x1] 0 (some (.long X.1)) X.2 :=
  mx_of hl (by decide) rfl rfl (Nat.le_of_ble_eq_true rfl) (fun Γ e1 e2 e3 e4 e5 => by subst e1; subst e3; subst e4; subst e5; exact wBi_pairAt e2 hl x0 x1 S h)
/-! MatchPipe$Bits.put(III)V -/
def yBi_put : MethodName := ⟨"MatchPipe$Bits", "put", "(III)V"⟩
def tBi_put : tM := (prog_3_method_5_code, "MatchPipe$Bits", 10, "put", none, [])
def rBi_put : Room := { frames := 1, cells := 0, slots := 0, locals := 23 }
theorem kBi_put : cOf yBi_put tBi_put ∈ gT := gT_in 584 (by decide +kernel) rfl
theorem iBi_put : Cond.initialized yBi_put.cls ∈ gT := gT_in 65 (by decide +kernel) rfl
theorem mBi_put : okM yBi_put 3 := ⟨by decide, by decide, by unfold nPar; decide +kernel⟩
theorem nBi_put : Cond.instanceMethod yBi_put ∈ gT := gT_in 582 (by decide +kernel) rfl
theorem lBi_put : Cond.selects "MatchPipe$Bits" yBi_put yBi_put ∈ gT := gT_in 583 (by decide +kernel) rfl
def fBi_put (x0 : Nat) (x1 : Int32) (x2 : Int32) (x3 : Int32) (S : Sx) : Option (Sx) :=
    (ckd S x0 10).bind fun _ =>
    bd2 (fBi_isOutside x0 x1 x2 S) fun r3 S4 =>
    if r3 = 0 then
    ((ckd S4 x0 10).bind fun _ =>
    bd2 (fBi_pairAt x0 (x1 >>> (5 &&& 31)) S4) fun r7 S8 =>
    (gX S8 10 0 x0).bind fun v9 =>
    (qI S8 v9 (x1 >>> (5 &&& 31)) (Int64.toInt32 (lushr ((r7 &&& ((lshl (lushr (-1 : Int64) (64 - x2)) ((64 - (x1 &&& 31)) - x2)) ^^^ (-1 : Int64))) ||| ((lshl (Int32.toInt64 x3) ((64 - (x1 &&& 31)) - x2)) &&& (lshl (lushr (-1 : Int64) (64 - x2)) ((64 - (x1 &&& 31)) - x2)))) 32))).bind fun S11 =>
    (gX S11 10 0 x0).bind fun v13 =>
    (lnI S11 v13).bind fun v15 =>
    if v15 ≤ ((x1 >>> (5 &&& 31)) + 1) then
    (some S11)
    else
    ((gX S11 10 0 x0).bind fun v17 =>
    (qI S11 v17 ((x1 >>> (5 &&& 31)) + 1) (Int64.toInt32 ((r7 &&& ((lshl (lushr (-1 : Int64) (64 - x2)) ((64 - (x1 &&& 31)) - x2)) ^^^ (-1 : Int64))) ||| ((lshl (Int32.toInt64 x3) ((64 - (x1 &&& 31)) - x2)) &&& (lshl (lushr (-1 : Int64) (64 - x2)) ((64 - (x1 &&& 31)) - x2)))))).bind fun S19 =>
    some S19))
    else
    (some S4)
set_option maxRecDepth 100000 in
set_option maxHeartbeats 4000000 in
theorem wBi_put {Γ : vG} (hR : gR Γ = rBi_put) (hl : (gl Γ).flags = pinnedFlags ++ [noTraceFlag]) (x0 : Nat) (x1 : Int32) (x2 : Int32) (x3 : Int32) (S : Sx) {X : Sx} (h : fBi_put x0 x1 x2 x3 S = some X) : vV Γ tBi_put (mQ Γ 0 0 0 none X) S 0 0 0 [(0, .ref x0), (1, .int x1), (2, .int x2), (3, .int x3)] [] := by
  unfold fBi_put at h
  refine v_aload_n (pc := 0) (show decode (tC tBi_put) 0 = .ok (.aload_n 0, 1) by decide +kernel) 0 rfl rfl ?_
  refine v_iload_n (pc := 1) (show decode (tC tBi_put) 1 = .ok (.iload_n 1, 1) by decide +kernel) 1 rfl rfl ?_
  refine v_iload_n (pc := 2) (show decode (tC tBi_put) 2 = .ok (.iload_n 2, 1) by decide +kernel) 2 rfl rfl ?_
  obtain ⟨_, e2, h⟩ := ob h
  obtain ⟨r3, S4, e1, h⟩ := ob2 h
  refine v_call (pc := 3) (v := (some (.int r3))) (y := yBi_isOutside) (θ' := tBi_isOutside) (rm := rBi_isOutside) (av := [.ref x0, .int x1, .int x2]) (st := []) (cBi_isOutside (l := gl Γ) hl e1) kBi_isOutside iBi_isOutside (iv_virt (y := yBi_isOutside) (θ' := tBi_isOutside) (kd := 10) (As := [.int x1, .int x2]) rfl (ckd_of e2) kBi_isOutside (gT_in 572 (by decide +kernel) rfl) nBi_isOutside lBi_isOutside mBi_isOutside rfl (show decode (tC tBi_put) 3 = .ok (.invokevirtual 27, 3) by decide +kernel)) ⟨by rw [hR]; decide, by rw [hR]; decide, by rw [hR]; decide, by rw [hR]; decide⟩ (Nat.le_of_ble_eq_true rfl) ?_
  refine v_if_eq (pc := 6) 10 (show decode (tC tBi_put) 6 = .ok (.ifCond .eq 4, 3) by decide +kernel) (by decide) (fun c => ?_) (fun c => ?_)
  · replace h := ite_t c h
    refine v_iload_n (pc := 10) (show decode (tC tBi_put) 10 = .ok (.iload_n 1, 1) by decide +kernel) 1 rfl rfl ?_
    refine v_iconst (pc := 11) (v := 5) (show decode (tC tBi_put) 11 = .ok (.iconst 5, 1) by decide +kernel) (by decide) ?_
    refine v_ishr (pc := 12) (show decode (tC tBi_put) 12 = .ok (.ishr, 1) by decide +kernel) ?_
    refine v_istore (pc := 13) [(4, .int (x1 >>> (5 &&& 31))), (0, .ref x0), (1, .int x1), (2, .int x2), (3, .int x3)] (show decode (tC tBi_put) 13 = .ok (.istore 4, 2) by decide +kernel) (by decide) rfl ?_
    refine v_bipush (pc := 15) (v := 64) (show decode (tC tBi_put) 15 = .ok (.bipush 64, 2) by decide +kernel) (by decide) ?_
    refine v_iload_n (pc := 17) (show decode (tC tBi_put) 17 = .ok (.iload_n 1, 1) by decide +kernel) 2 rfl rfl ?_
    refine v_bipush (pc := 18) (v := 31) (show decode (tC tBi_put) 18 = .ok (.bipush 31, 2) by decide +kernel) (by decide) ?_
    refine v_iand (pc := 20) (show decode (tC tBi_put) 20 = .ok (.iand, 1) by decide +kernel) ?_
    refine v_isub (pc := 21) (show decode (tC tBi_put) 21 = .ok (.isub, 1) by decide +kernel) ?_
    refine v_iload_n (pc := 22) (show decode (tC tBi_put) 22 = .ok (.iload_n 2, 1) by decide +kernel) 3 rfl rfl ?_
    refine v_isub (pc := 23) (show decode (tC tBi_put) 23 = .ok (.isub, 1) by decide +kernel) ?_
    refine v_istore (pc := 24) [(5, .int ((64 - (x1 &&& 31)) - x2)), (4, .int (x1 >>> (5 &&& 31))), (0, .ref x0), (1, .int x1), (2, .int x2), (3, .int x3)] (show decode (tC tBi_put) 24 = .ok (.istore 5, 2) by decide +kernel) (by decide) rfl ?_
    refine v_ldc2 (pc := 26) (v := -1) (gT_in 585 (by decide +kernel) rfl) (show decode (tC tBi_put) 26 = .ok (.ldc2_w 35, 3) by decide +kernel) ?_
    refine v_bipush (pc := 29) (v := 64) (show decode (tC tBi_put) 29 = .ok (.bipush 64, 2) by decide +kernel) (by decide) ?_
    refine v_iload_n (pc := 31) (show decode (tC tBi_put) 31 = .ok (.iload_n 2, 1) by decide +kernel) 4 rfl rfl ?_
    refine v_isub (pc := 32) (show decode (tC tBi_put) 32 = .ok (.isub, 1) by decide +kernel) ?_
    refine v_lushr (pc := 33) (show decode (tC tBi_put) 33 = .ok (.lushr, 1) by decide +kernel) ?_
    refine v_iload (pc := 34) (show decode (tC tBi_put) 34 = .ok (.iload 5, 2) by decide +kernel) 0 rfl ?_
    refine v_lshl (pc := 36) (show decode (tC tBi_put) 36 = .ok (.lshl, 1) by decide +kernel) ?_
    refine v_lstore (pc := 37) [(6, .long (lshl (lushr (-1 : Int64) (64 - x2)) ((64 - (x1 &&& 31)) - x2))), (5, .int ((64 - (x1 &&& 31)) - x2)), (4, .int (x1 >>> (5 &&& 31))), (0, .ref x0), (1, .int x1), (2, .int x2), (3, .int x3)] (show decode (tC tBi_put) 37 = .ok (.lstore 6, 2) by decide +kernel) (by decide) rfl ?_
    refine v_aload_n (pc := 39) (show decode (tC tBi_put) 39 = .ok (.aload_n 0, 1) by decide +kernel) 3 rfl rfl ?_
    refine v_iload (pc := 40) (show decode (tC tBi_put) 40 = .ok (.iload 4, 2) by decide +kernel) 2 rfl ?_
    obtain ⟨_, e6, h⟩ := ob h
    obtain ⟨r7, S8, e5, h⟩ := ob2 h
    refine v_call (pc := 42) (v := (some (.long r7))) (y := yBi_pairAt) (θ' := tBi_pairAt) (rm := rBi_pairAt) (av := [.ref x0, .int (x1 >>> (5 &&& 31))]) (st := []) (cBi_pairAt (l := gl Γ) hl e5) kBi_pairAt iBi_pairAt (iv_virt (y := yBi_pairAt) (θ' := tBi_pairAt) (kd := 10) (As := [.int (x1 >>> (5 &&& 31))]) rfl (ckd_of e6) kBi_pairAt (gT_in 576 (by decide +kernel) rfl) nBi_pairAt lBi_pairAt mBi_pairAt rfl (show decode (tC tBi_put) 42 = .ok (.invokevirtual 31, 3) by decide +kernel)) ⟨by rw [hR]; decide, by rw [hR]; decide, by rw [hR]; decide, by rw [hR]; decide⟩ (Nat.le_of_ble_eq_true rfl) ?_
    refine v_lload (pc := 45) (show decode (tC tBi_put) 45 = .ok (.lload 6, 2) by decide +kernel) 0 rfl ?_
    refine v_ldc2 (pc := 47) (v := -1) (gT_in 585 (by decide +kernel) rfl) (show decode (tC tBi_put) 47 = .ok (.ldc2_w 35, 3) by decide +kernel) ?_
    refine v_lxor (pc := 50) (show decode (tC tBi_put) 50 = .ok (.lxor, 1) by decide +kernel) ?_
    refine v_land (pc := 51) (show decode (tC tBi_put) 51 = .ok (.land, 1) by decide +kernel) ?_
    refine v_iload_n (pc := 52) (show decode (tC tBi_put) 52 = .ok (.iload_n 3, 1) by decide +kernel) 6 rfl rfl ?_
    refine v_i2l (pc := 53) (show decode (tC tBi_put) 53 = .ok (.i2l, 1) by decide +kernel) ?_
    refine v_iload (pc := 54) (show decode (tC tBi_put) 54 = .ok (.iload 5, 2) by decide +kernel) 1 rfl ?_
    refine v_lshl (pc := 56) (show decode (tC tBi_put) 56 = .ok (.lshl, 1) by decide +kernel) ?_
    refine v_lload (pc := 57) (show decode (tC tBi_put) 57 = .ok (.lload 6, 2) by decide +kernel) 0 rfl ?_
    refine v_land (pc := 59) (show decode (tC tBi_put) 59 = .ok (.land, 1) by decide +kernel) ?_
    refine v_lor (pc := 60) (show decode (tC tBi_put) 60 = .ok (.lor, 1) by decide +kernel) ?_
    refine v_lstore (pc := 61) [(8, .long ((r7 &&& ((lshl (lushr (-1 : Int64) (64 - x2)) ((64 - (x1 &&& 31)) - x2)) ^^^ (-1 : Int64))) ||| ((lshl (Int32.toInt64 x3) ((64 - (x1 &&& 31)) - x2)) &&& (lshl (lushr (-1 : Int64) (64 - x2)) ((64 - (x1 &&& 31)) - x2))))), (6, .long (lshl (lushr (-1 : Int64) (64 - x2)) ((64 - (x1 &&& 31)) - x2))), (5, .int ((64 - (x1 &&& 31)) - x2)), (4, .int (x1 >>> (5 &&& 31))), (0, .ref x0), (1, .int x1), (2, .int x2), (3, .int x3)] (show decode (tC tBi_put) 61 = .ok (.lstore 8, 2) by decide +kernel) (by decide) rfl ?_
    refine v_aload_n (pc := 63) (show decode (tC tBi_put) 63 = .ok (.aload_n 0, 1) by decide +kernel) 4 rfl rfl ?_
    obtain ⟨v9, e10, h⟩ := ob h
    refine v_getX (pc := 64) oF_Bi_9 e10 (show decode (tC tBi_put) 64 = .ok (.getfield 9, 3) by decide +kernel) ?_
    refine v_iload (pc := 67) (show decode (tC tBi_put) 67 = .ok (.iload 4, 2) by decide +kernel) 3 rfl ?_
    refine v_lload (pc := 69) (show decode (tC tBi_put) 69 = .ok (.lload 8, 2) by decide +kernel) 0 rfl ?_
    refine v_bipush (pc := 71) (v := 32) (show decode (tC tBi_put) 71 = .ok (.bipush 32, 2) by decide +kernel) (by decide) ?_
    refine v_lushr (pc := 73) (show decode (tC tBi_put) 73 = .ok (.lushr, 1) by decide +kernel) ?_
    refine v_l2i (pc := 74) (show decode (tC tBi_put) 74 = .ok (.l2i, 1) by decide +kernel) ?_
    obtain ⟨S11, e12, h⟩ := ob h
    refine v_iast (pc := 75) e12 (show decode (tC tBi_put) 75 = .ok (.iastore, 1) by decide +kernel) ?_
    refine v_iload (pc := 76) (show decode (tC tBi_put) 76 = .ok (.iload 4, 2) by decide +kernel) 3 rfl ?_
    refine v_iconst (pc := 78) (v := 1) (show decode (tC tBi_put) 78 = .ok (.iconst 1, 1) by decide +kernel) (by decide) ?_
    refine v_iadd (pc := 79) (show decode (tC tBi_put) 79 = .ok (.iadd, 1) by decide +kernel) ?_
    refine v_aload_n (pc := 80) (show decode (tC tBi_put) 80 = .ok (.aload_n 0, 1) by decide +kernel) 4 rfl rfl ?_
    obtain ⟨v13, e14, h⟩ := ob h
    refine v_getX (pc := 81) oF_Bi_9 e14 (show decode (tC tBi_put) 81 = .ok (.getfield 9, 3) by decide +kernel) ?_
    obtain ⟨v15, e16, h⟩ := ob h
    refine v_alen (pc := 84) e16 (show decode (tC tBi_put) 84 = .ok (.arraylength, 1) by decide +kernel) ?_
    refine v_icmp_ge (pc := 85) 100 (show decode (tC tBi_put) 85 = .ok (.if_icmp .ge 15, 3) by decide +kernel) (by decide) (fun c => ?_) (fun c => ?_)
    · replace h := ite_t c h
      obtain rfl := Option.some.inj h
      refine v_wide (ce2 := 0) (sl2 := 0) (by decide) (by decide) ?_
      exact v_vret (pc := 100) rfl (show decode (tC tBi_put) 100 = .ok (.return_, 1) by decide +kernel)
    · replace h := ite_f c h
      refine v_aload_n (pc := 88) (show decode (tC tBi_put) 88 = .ok (.aload_n 0, 1) by decide +kernel) 4 rfl rfl ?_
      obtain ⟨v17, e18, h⟩ := ob h
      refine v_getX (pc := 89) oF_Bi_9 e18 (show decode (tC tBi_put) 89 = .ok (.getfield 9, 3) by decide +kernel) ?_
      refine v_iload (pc := 92) (show decode (tC tBi_put) 92 = .ok (.iload 4, 2) by decide +kernel) 3 rfl ?_
      refine v_iconst (pc := 94) (v := 1) (show decode (tC tBi_put) 94 = .ok (.iconst 1, 1) by decide +kernel) (by decide) ?_
      refine v_iadd (pc := 95) (show decode (tC tBi_put) 95 = .ok (.iadd, 1) by decide +kernel) ?_
      refine v_lload (pc := 96) (show decode (tC tBi_put) 96 = .ok (.lload 8, 2) by decide +kernel) 0 rfl ?_
      refine v_l2i (pc := 98) (show decode (tC tBi_put) 98 = .ok (.l2i, 1) by decide +kernel) ?_
      obtain ⟨S19, e20, h⟩ := ob h
      refine v_iast (pc := 99) e20 (show decode (tC tBi_put) 99 = .ok (.iastore, 1) by decide +kernel) ?_
      obtain rfl := Option.some.inj h
      refine v_wide (ce2 := 0) (sl2 := 0) (by decide) (by decide) ?_
      exact v_vret (pc := 100) rfl (show decode (tC tBi_put) 100 = .ok (.return_, 1) by decide +kernel)
  · replace h := ite_f c h
    obtain rfl := Option.some.inj h
    refine v_wide (ce2 := 0) (sl2 := 0) (by decide) (by decide) ?_
    exact v_vret (pc := 9) rfl (show decode (tC tBi_put) 9 = .ok (.return_, 1) by decide +kernel)
theorem cBi_put {l : Launch} (hl : l.flags = pinnedFlags ++ [noTraceFlag]) {D : va_G} {dA : Nat → ClassId} {B : Nat} {x0 : Nat} {x1 : Int32} {x2 : Int32} {x3 : Int32} {S : Sx} {X : Sx} (h : fBi_put x0 x1 x2 x3 S = some X) : Mx l yBi_put tBi_put rBi_put 0 0 D dA B S [.ref x0, .int x1, .int x2, .int x3] 0 none X :=
  mx_of hl (by decide) rfl rfl (Nat.le_of_ble_eq_true rfl) (fun Γ e1 e2 e3 e4 e5 => by subst e1; subst e3; subst e4; subst e5; exact wBi_put e2 hl x0 x1 x2 x3 S h)
/-! MatchPipe$Bits.take(II)I -/
def yBi_take : MethodName := ⟨"MatchPipe$Bits", "take", "(II)I"⟩
def tBi_take : tM := (prog_3_method_4_code, "MatchPipe$Bits", 3, "take", some .int, [])
def rBi_take : Room := { frames := 1, cells := 0, slots := 0, locals := 23 }
theorem kBi_take : cOf yBi_take tBi_take ∈ gT := gT_in 571 (by decide +kernel) rfl
theorem iBi_take : Cond.initialized yBi_take.cls ∈ gT := gT_in 65 (by decide +kernel) rfl
theorem mBi_take : okM yBi_take 2 := ⟨by decide, by decide, by unfold nPar; decide +kernel⟩
theorem nBi_take : Cond.instanceMethod yBi_take ∈ gT := gT_in 569 (by decide +kernel) rfl
theorem lBi_take : Cond.selects "MatchPipe$Bits" yBi_take yBi_take ∈ gT := gT_in 570 (by decide +kernel) rfl
def fBi_take (x0 : Nat) (x1 : Int32) (x2 : Int32) (S : Sx) : Option (Int32 × Sx) :=
    (ckd S x0 10).bind fun _ =>
    bd2 (fBi_isOutside x0 x1 x2 S) fun r3 S4 =>
    if r3 = 0 then
    ((ckd S4 x0 10).bind fun _ =>
    bd2 (fBi_pairAt x0 (x1 >>> (5 &&& 31)) S4) fun r7 S8 =>
    some ((Int64.toInt32 (lushr r7 ((64 - (x1 &&& 31)) - x2))) &&& (iushr (-1) (32 - x2)), S8))
    else
    (some (0, S4))
set_option maxRecDepth 100000 in
set_option maxHeartbeats 4000000 in
theorem wBi_take {Γ : vG} (hR : gR Γ = rBi_take) (hl : (gl Γ).flags = pinnedFlags ++ [noTraceFlag]) (x0 : Nat) (x1 : Int32) (x2 : Int32) (S : Sx) {X : Int32 × Sx} (h : fBi_take x0 x1 x2 S = some X) : vV Γ tBi_take (mQ Γ 0 0 0 (some (.int X.1)) X.2) S 0 0 0 [(0, .ref x0), (1, .int x1), (2, .int x2)] [] := by
  unfold fBi_take at h
  refine v_aload_n (pc := 0) (show decode (tC tBi_take) 0 = .ok (.aload_n 0, 1) by decide +kernel) 0 rfl rfl ?_
  refine v_iload_n (pc := 1) (show decode (tC tBi_take) 1 = .ok (.iload_n 1, 1) by decide +kernel) 1 rfl rfl ?_
  refine v_iload_n (pc := 2) (show decode (tC tBi_take) 2 = .ok (.iload_n 2, 1) by decide +kernel) 2 rfl rfl ?_
  obtain ⟨_, e2, h⟩ := ob h
  obtain ⟨r3, S4, e1, h⟩ := ob2 h
  refine v_call (pc := 3) (v := (some (.int r3))) (y := yBi_isOutside) (θ' := tBi_isOutside) (rm := rBi_isOutside) (av := [.ref x0, .int x1, .int x2]) (st := []) (cBi_isOutside (l := gl Γ) hl e1) kBi_isOutside iBi_isOutside (iv_virt (y := yBi_isOutside) (θ' := tBi_isOutside) (kd := 10) (As := [.int x1, .int x2]) rfl (ckd_of e2) kBi_isOutside (gT_in 572 (by decide +kernel) rfl) nBi_isOutside lBi_isOutside mBi_isOutside rfl (show decode (tC tBi_take) 3 = .ok (.invokevirtual 27, 3) by decide +kernel)) ⟨by rw [hR]; decide, by rw [hR]; decide, by rw [hR]; decide, by rw [hR]; decide⟩ (Nat.le_of_ble_eq_true rfl) ?_
  refine v_if_eq (pc := 6) 11 (show decode (tC tBi_take) 6 = .ok (.ifCond .eq 5, 3) by decide +kernel) (by decide) (fun c => ?_) (fun c => ?_)
  · replace h := ite_t c h
    refine v_aload_n (pc := 11) (show decode (tC tBi_take) 11 = .ok (.aload_n 0, 1) by decide +kernel) 0 rfl rfl ?_
    refine v_iload_n (pc := 12) (show decode (tC tBi_take) 12 = .ok (.iload_n 1, 1) by decide +kernel) 1 rfl rfl ?_
    refine v_iconst (pc := 13) (v := 5) (show decode (tC tBi_take) 13 = .ok (.iconst 5, 1) by decide +kernel) (by decide) ?_
    refine v_ishr (pc := 14) (show decode (tC tBi_take) 14 = .ok (.ishr, 1) by decide +kernel) ?_
    obtain ⟨_, e6, h⟩ := ob h
    obtain ⟨r7, S8, e5, h⟩ := ob2 h
    refine v_call (pc := 15) (v := (some (.long r7))) (y := yBi_pairAt) (θ' := tBi_pairAt) (rm := rBi_pairAt) (av := [.ref x0, .int (x1 >>> (5 &&& 31))]) (st := []) (cBi_pairAt (l := gl Γ) hl e5) kBi_pairAt iBi_pairAt (iv_virt (y := yBi_pairAt) (θ' := tBi_pairAt) (kd := 10) (As := [.int (x1 >>> (5 &&& 31))]) rfl (ckd_of e6) kBi_pairAt (gT_in 576 (by decide +kernel) rfl) nBi_pairAt lBi_pairAt mBi_pairAt rfl (show decode (tC tBi_take) 15 = .ok (.invokevirtual 31, 3) by decide +kernel)) ⟨by rw [hR]; decide, by rw [hR]; decide, by rw [hR]; decide, by rw [hR]; decide⟩ (Nat.le_of_ble_eq_true rfl) ?_
    refine v_bipush (pc := 18) (v := 64) (show decode (tC tBi_take) 18 = .ok (.bipush 64, 2) by decide +kernel) (by decide) ?_
    refine v_iload_n (pc := 20) (show decode (tC tBi_take) 20 = .ok (.iload_n 1, 1) by decide +kernel) 1 rfl rfl ?_
    refine v_bipush (pc := 21) (v := 31) (show decode (tC tBi_take) 21 = .ok (.bipush 31, 2) by decide +kernel) (by decide) ?_
    refine v_iand (pc := 23) (show decode (tC tBi_take) 23 = .ok (.iand, 1) by decide +kernel) ?_
    refine v_isub (pc := 24) (show decode (tC tBi_take) 24 = .ok (.isub, 1) by decide +kernel) ?_
    refine v_iload_n (pc := 25) (show decode (tC tBi_take) 25 = .ok (.iload_n 2, 1) by decide +kernel) 2 rfl rfl ?_
    refine v_isub (pc := 26) (show decode (tC tBi_take) 26 = .ok (.isub, 1) by decide +kernel) ?_
    refine v_lushr (pc := 27) (show decode (tC tBi_take) 27 = .ok (.lushr, 1) by decide +kernel) ?_
    refine v_l2i (pc := 28) (show decode (tC tBi_take) 28 = .ok (.l2i, 1) by decide +kernel) ?_
    refine v_iconst (pc := 29) (v := (-1)) (show decode (tC tBi_take) 29 = .ok (.iconst (-1), 1) by decide +kernel) (by decide) ?_
    refine v_bipush (pc := 30) (v := 32) (show decode (tC tBi_take) 30 = .ok (.bipush 32, 2) by decide +kernel) (by decide) ?_
    refine v_iload_n (pc := 32) (show decode (tC tBi_take) 32 = .ok (.iload_n 2, 1) by decide +kernel) 2 rfl rfl ?_
    refine v_isub (pc := 33) (show decode (tC tBi_take) 33 = .ok (.isub, 1) by decide +kernel) ?_
    refine v_iushr (pc := 34) (show decode (tC tBi_take) 34 = .ok (.iushr, 1) by decide +kernel) ?_
    refine v_iand (pc := 35) (show decode (tC tBi_take) 35 = .ok (.iand, 1) by decide +kernel) ?_
    obtain rfl := Option.some.inj h
    refine v_wide (ce2 := 0) (sl2 := 0) (by decide) (by decide) ?_
    exact v_iret (pc := 36) rfl (show decode (tC tBi_take) 36 = .ok (.ireturn, 1) by decide +kernel)
  · replace h := ite_f c h
    refine v_iconst (pc := 9) (v := 0) (show decode (tC tBi_take) 9 = .ok (.iconst 0, 1) by decide +kernel) (by decide) ?_
    obtain rfl := Option.some.inj h
    refine v_wide (ce2 := 0) (sl2 := 0) (by decide) (by decide) ?_
    exact v_iret (pc := 10) rfl (show decode (tC tBi_take) 10 = .ok (.ireturn, 1) by decide +kernel)
theorem cBi_take {l : Launch} (hl : l.flags = pinnedFlags ++ [noTraceFlag]) {D : va_G} {dA : Nat → ClassId} {B : Nat} {x0 : Nat} {x1 : Int32} {x2 : Int32} {S : Sx} {X : Int32 × Sx} (h : fBi_take x0 x1 x2 S = some X) : Mx l yBi_take tBi_take rBi_take 0 0 D dA B S [.ref x0, .int x1, .int x2] 0 (some (.int X.1)) X.2 :=
  mx_of hl (by decide) rfl rfl (Nat.le_of_ble_eq_true rfl) (fun Γ e1 e2 e3 e4 e5 => by subst e1; subst e3; subst e4; subst e5; exact wBi_take e2 hl x0 x1 x2 S h)
/-! MatchPipe.beforeNone(IIII)I -/
def yMp_beforeNone : MethodName := ⟨"MatchPipe", "beforeNone", "(IIII)I"⟩
def tMp_beforeNone : tM := (prog_1_method_35_code, "MatchPipe", 4, "beforeNone", some .int, [])
def rMp_beforeNone : Room := { frames := 0, cells := 0, slots := 0, locals := 0 }
theorem kMp_beforeNone : cOf yMp_beforeNone tMp_beforeNone ∈ gT := gT_in 734 (by decide +kernel) rfl
theorem iMp_beforeNone : Cond.initialized yMp_beforeNone.cls ∈ gT := gT_in 55 (by decide +kernel) rfl
theorem mMp_beforeNone : okM yMp_beforeNone 4 := ⟨by decide, by decide, by unfold nPar; decide +kernel⟩
theorem sMp_beforeNone : Cond.static yMp_beforeNone ∈ gT := gT_in 733 (by decide +kernel) rfl
def fMp_beforeNone (x0 : Int32) (x1 : Int32) (x2 : Int32) (x3 : Int32) (S : Sx) : Option (Int32 × Sx) :=
    if x0 = (-1) then
    (some (0, S))
    else
    (if x1 = (-1) then
    (some (1, S))
    else
    (if x2 = (-1) then
    (some (2, S))
    else
    (if x3 = (-1) then
    (some (3, S))
    else
    (some (4, S)))))
set_option maxRecDepth 100000 in
set_option maxHeartbeats 4000000 in
theorem wMp_beforeNone {Γ : vG} (hR : gR Γ = rMp_beforeNone) (hl : (gl Γ).flags = pinnedFlags ++ [noTraceFlag]) (x0 : Int32) (x1 : Int32) (x2 : Int32) (x3 : Int32) (S : Sx) {X : Int32 × Sx} (h : fMp_beforeNone x0 x1 x2 x3 S = some X) : vV Γ tMp_beforeNone (mQ Γ 0 0 0 (some (.int X.1)) X.2) S 0 0 0 [(0, .int x0), (1, .int x1), (2, .int x2), (3, .int x3)] [] := by
  unfold fMp_beforeNone at h
  refine v_iload_n (pc := 0) (show decode (tC tMp_beforeNone) 0 = .ok (.iload_n 0, 1) by decide +kernel) 0 rfl rfl ?_
  refine v_iconst (pc := 1) (v := (-1)) (show decode (tC tMp_beforeNone) 1 = .ok (.iconst (-1), 1) by decide +kernel) (by decide) ?_
  refine v_icmp_ne (pc := 2) 7 (show decode (tC tMp_beforeNone) 2 = .ok (.if_icmp .ne 5, 3) by decide +kernel) (by decide) (fun c => ?_) (fun c => ?_)
  · replace h := ite_f c h
    refine v_iload_n (pc := 7) (show decode (tC tMp_beforeNone) 7 = .ok (.iload_n 1, 1) by decide +kernel) 1 rfl rfl ?_
    refine v_iconst (pc := 8) (v := (-1)) (show decode (tC tMp_beforeNone) 8 = .ok (.iconst (-1), 1) by decide +kernel) (by decide) ?_
    refine v_icmp_ne (pc := 9) 14 (show decode (tC tMp_beforeNone) 9 = .ok (.if_icmp .ne 5, 3) by decide +kernel) (by decide) (fun c => ?_) (fun c => ?_)
    · replace h := ite_f c h
      refine v_iload_n (pc := 14) (show decode (tC tMp_beforeNone) 14 = .ok (.iload_n 2, 1) by decide +kernel) 2 rfl rfl ?_
      refine v_iconst (pc := 15) (v := (-1)) (show decode (tC tMp_beforeNone) 15 = .ok (.iconst (-1), 1) by decide +kernel) (by decide) ?_
      refine v_icmp_ne (pc := 16) 21 (show decode (tC tMp_beforeNone) 16 = .ok (.if_icmp .ne 5, 3) by decide +kernel) (by decide) (fun c => ?_) (fun c => ?_)
      · replace h := ite_f c h
        refine v_iload_n (pc := 21) (show decode (tC tMp_beforeNone) 21 = .ok (.iload_n 3, 1) by decide +kernel) 3 rfl rfl ?_
        refine v_iconst (pc := 22) (v := (-1)) (show decode (tC tMp_beforeNone) 22 = .ok (.iconst (-1), 1) by decide +kernel) (by decide) ?_
        refine v_icmp_ne (pc := 23) 30 (show decode (tC tMp_beforeNone) 23 = .ok (.if_icmp .ne 7, 3) by decide +kernel) (by decide) (fun c => ?_) (fun c => ?_)
        · replace h := ite_f c h
          refine v_iconst (pc := 30) (v := 4) (show decode (tC tMp_beforeNone) 30 = .ok (.iconst 4, 1) by decide +kernel) (by decide) ?_
          obtain rfl := Option.some.inj h
          refine v_wide (ce2 := 0) (sl2 := 0) (by decide) (by decide) ?_
          exact v_iret (pc := 31) rfl (show decode (tC tMp_beforeNone) 31 = .ok (.ireturn, 1) by decide +kernel)
        · replace h := ite_t c h
          refine v_iconst (pc := 26) (v := 3) (show decode (tC tMp_beforeNone) 26 = .ok (.iconst 3, 1) by decide +kernel) (by decide) ?_
          refine v_goto (pc := 27) 31 (show decode (tC tMp_beforeNone) 27 = .ok (.goto 4, 3) by decide +kernel) (by decide) ?_
          obtain rfl := Option.some.inj h
          refine v_wide (ce2 := 0) (sl2 := 0) (by decide) (by decide) ?_
          exact v_iret (pc := 31) rfl (show decode (tC tMp_beforeNone) 31 = .ok (.ireturn, 1) by decide +kernel)
      · replace h := ite_t c h
        refine v_iconst (pc := 19) (v := 2) (show decode (tC tMp_beforeNone) 19 = .ok (.iconst 2, 1) by decide +kernel) (by decide) ?_
        obtain rfl := Option.some.inj h
        refine v_wide (ce2 := 0) (sl2 := 0) (by decide) (by decide) ?_
        exact v_iret (pc := 20) rfl (show decode (tC tMp_beforeNone) 20 = .ok (.ireturn, 1) by decide +kernel)
    · replace h := ite_t c h
      refine v_iconst (pc := 12) (v := 1) (show decode (tC tMp_beforeNone) 12 = .ok (.iconst 1, 1) by decide +kernel) (by decide) ?_
      obtain rfl := Option.some.inj h
      refine v_wide (ce2 := 0) (sl2 := 0) (by decide) (by decide) ?_
      exact v_iret (pc := 13) rfl (show decode (tC tMp_beforeNone) 13 = .ok (.ireturn, 1) by decide +kernel)
  · replace h := ite_t c h
    refine v_iconst (pc := 5) (v := 0) (show decode (tC tMp_beforeNone) 5 = .ok (.iconst 0, 1) by decide +kernel) (by decide) ?_
    obtain rfl := Option.some.inj h
    refine v_wide (ce2 := 0) (sl2 := 0) (by decide) (by decide) ?_
    exact v_iret (pc := 6) rfl (show decode (tC tMp_beforeNone) 6 = .ok (.ireturn, 1) by decide +kernel)
theorem cMp_beforeNone {l : Launch} (hl : l.flags = pinnedFlags ++ [noTraceFlag]) {D : va_G} {dA : Nat → ClassId} {B : Nat} {x0 : Int32} {x1 : Int32} {x2 : Int32} {x3 : Int32} {S : Sx} {X : Int32 × Sx} (h : fMp_beforeNone x0 x1 x2 x3 S = some X) : Mx l yMp_beforeNone tMp_beforeNone rMp_beforeNone 0 0 D dA B S [.int x0, .int x1, .int x2, .int x3] 0 (some (.int X.1)) X.2 :=
  mx_of hl (by decide) rfl rfl (Nat.le_of_ble_eq_true rfl) (fun Γ e1 e2 e3 e4 e5 => by subst e1; subst e3; subst e4; subst e5; exact wMp_beforeNone e2 hl x0 x1 x2 x3 S h)
/-! MatchPipe.hasBit(II)Z -/
def yMp_hasBit : MethodName := ⟨"MatchPipe", "hasBit", "(II)Z"⟩
def tMp_hasBit : tM := (prog_1_method_37_code, "MatchPipe", 2, "hasBit", some .boolean, [])
def rMp_hasBit : Room := { frames := 0, cells := 0, slots := 0, locals := 0 }
theorem kMp_hasBit : cOf yMp_hasBit tMp_hasBit ∈ gT := gT_in 833 (by decide +kernel) rfl
theorem iMp_hasBit : Cond.initialized yMp_hasBit.cls ∈ gT := gT_in 55 (by decide +kernel) rfl
theorem mMp_hasBit : okM yMp_hasBit 2 := ⟨by decide, by decide, by unfold nPar; decide +kernel⟩
theorem sMp_hasBit : Cond.static yMp_hasBit ∈ gT := gT_in 832 (by decide +kernel) rfl
def fMp_hasBit (x0 : Int32) (x1 : Int32) (S : Sx) : Option (Int32 × Sx) :=
    if x1 < 0 then
    (some (0, S))
    else
    (if (32 : Int32) ≤ x1 then
    (some (0, S))
    else
    (if ((iushr x0 x1) &&& 1) = 1 then
    (some (1, S))
    else
    (some (0, S))))
set_option maxRecDepth 100000 in
set_option maxHeartbeats 4000000 in
theorem wMp_hasBit {Γ : vG} (hR : gR Γ = rMp_hasBit) (hl : (gl Γ).flags = pinnedFlags ++ [noTraceFlag]) (x0 : Int32) (x1 : Int32) (S : Sx) {X : Int32 × Sx} (h : fMp_hasBit x0 x1 S = some X) : vV Γ tMp_hasBit (mQ Γ 0 0 0 (some (.int X.1)) X.2) S 0 0 0 [(0, .int x0), (1, .int x1)] [] := by
  unfold fMp_hasBit at h
  refine v_iload_n (pc := 0) (show decode (tC tMp_hasBit) 0 = .ok (.iload_n 1, 1) by decide +kernel) 1 rfl rfl ?_
  refine v_if_lt (pc := 1) 23 (show decode (tC tMp_hasBit) 1 = .ok (.ifCond .lt 22, 3) by decide +kernel) (by decide) (fun c => ?_) (fun c => ?_)
  · replace h := ite_t c h
    refine v_iconst (pc := 23) (v := 0) (show decode (tC tMp_hasBit) 23 = .ok (.iconst 0, 1) by decide +kernel) (by decide) ?_
    obtain rfl := Option.some.inj h
    refine v_wide (ce2 := 0) (sl2 := 0) (by decide) (by decide) ?_
    exact v_zret (pc := 24) rfl (Or.inl rfl) (show decode (tC tMp_hasBit) 24 = .ok (.ireturn, 1) by decide +kernel)
  · replace h := ite_f c h
    refine v_iload_n (pc := 4) (show decode (tC tMp_hasBit) 4 = .ok (.iload_n 1, 1) by decide +kernel) 1 rfl rfl ?_
    refine v_bipush (pc := 5) (v := 32) (show decode (tC tMp_hasBit) 5 = .ok (.bipush 32, 2) by decide +kernel) (by decide) ?_
    refine v_icmp_ge (pc := 7) 23 (show decode (tC tMp_hasBit) 7 = .ok (.if_icmp .ge 16, 3) by decide +kernel) (by decide) (fun c => ?_) (fun c => ?_)
    · replace h := ite_t c h
      refine v_iconst (pc := 23) (v := 0) (show decode (tC tMp_hasBit) 23 = .ok (.iconst 0, 1) by decide +kernel) (by decide) ?_
      obtain rfl := Option.some.inj h
      refine v_wide (ce2 := 0) (sl2 := 0) (by decide) (by decide) ?_
      exact v_zret (pc := 24) rfl (Or.inl rfl) (show decode (tC tMp_hasBit) 24 = .ok (.ireturn, 1) by decide +kernel)
    · replace h := ite_f c h
      refine v_iload_n (pc := 10) (show decode (tC tMp_hasBit) 10 = .ok (.iload_n 0, 1) by decide +kernel) 0 rfl rfl ?_
      refine v_iload_n (pc := 11) (show decode (tC tMp_hasBit) 11 = .ok (.iload_n 1, 1) by decide +kernel) 1 rfl rfl ?_
      refine v_iushr (pc := 12) (show decode (tC tMp_hasBit) 12 = .ok (.iushr, 1) by decide +kernel) ?_
      refine v_iconst (pc := 13) (v := 1) (show decode (tC tMp_hasBit) 13 = .ok (.iconst 1, 1) by decide +kernel) (by decide) ?_
      refine v_iand (pc := 14) (show decode (tC tMp_hasBit) 14 = .ok (.iand, 1) by decide +kernel) ?_
      refine v_iconst (pc := 15) (v := 1) (show decode (tC tMp_hasBit) 15 = .ok (.iconst 1, 1) by decide +kernel) (by decide) ?_
      refine v_icmp_ne (pc := 16) 23 (show decode (tC tMp_hasBit) 16 = .ok (.if_icmp .ne 7, 3) by decide +kernel) (by decide) (fun c => ?_) (fun c => ?_)
      · replace h := ite_f c h
        refine v_iconst (pc := 23) (v := 0) (show decode (tC tMp_hasBit) 23 = .ok (.iconst 0, 1) by decide +kernel) (by decide) ?_
        obtain rfl := Option.some.inj h
        refine v_wide (ce2 := 0) (sl2 := 0) (by decide) (by decide) ?_
        exact v_zret (pc := 24) rfl (Or.inl rfl) (show decode (tC tMp_hasBit) 24 = .ok (.ireturn, 1) by decide +kernel)
      · replace h := ite_t c h
        refine v_iconst (pc := 19) (v := 1) (show decode (tC tMp_hasBit) 19 = .ok (.iconst 1, 1) by decide +kernel) (by decide) ?_
        refine v_goto (pc := 20) 24 (show decode (tC tMp_hasBit) 20 = .ok (.goto 4, 3) by decide +kernel) (by decide) ?_
        obtain rfl := Option.some.inj h
        refine v_wide (ce2 := 0) (sl2 := 0) (by decide) (by decide) ?_
        exact v_zret (pc := 24) rfl (Or.inr rfl) (show decode (tC tMp_hasBit) 24 = .ok (.ireturn, 1) by decide +kernel)
theorem cMp_hasBit {l : Launch} (hl : l.flags = pinnedFlags ++ [noTraceFlag]) {D : va_G} {dA : Nat → ClassId} {B : Nat} {x0 : Int32} {x1 : Int32} {S : Sx} {X : Int32 × Sx} (h : fMp_hasBit x0 x1 S = some X) : Mx l yMp_hasBit tMp_hasBit rMp_hasBit 0 0 D dA B S [.int x0, .int x1] 0 (some (.int X.1)) X.2 :=
  mx_of hl (by decide) rfl rfl (Nat.le_of_ble_eq_true rfl) (fun Γ e1 e2 e3 e4 e5 => by subst e1; subst e3; subst e4; subst e5; exact wMp_hasBit e2 hl x0 x1 S h)
/-! MatchPipe.isHow(IZ)Z -/
def yMp_isHow : MethodName := ⟨"MatchPipe", "isHow", "(IZ)Z"⟩
def tMp_isHow : tM := (prog_1_method_36_code, "MatchPipe", 4, "isHow", some .boolean, [])
def rMp_isHow : Room := { frames := 0, cells := 0, slots := 0, locals := 0 }
theorem kMp_isHow : cOf yMp_isHow tMp_isHow ∈ gT := gT_in 837 (by decide +kernel) rfl
theorem iMp_isHow : Cond.initialized yMp_isHow.cls ∈ gT := gT_in 55 (by decide +kernel) rfl
theorem mMp_isHow : okM yMp_isHow 2 := ⟨by decide, by decide, by unfold nPar; decide +kernel⟩
theorem sMp_isHow : Cond.static yMp_isHow ∈ gT := gT_in 836 (by decide +kernel) rfl
def fMp_isHow (x0 : Int32) (x1 : Int32) (S : Sx) : Option (Int32 × Sx) :=
    if (2 : Int32) < (x0 &&& 3) then
    (some (0, S))
    else
    (if (x0 >>> (2 &&& 31)) < 0 then
    (some (0, S))
    else
    (if (x0 >>> (2 &&& 31)) ≤ 2 then
    (if x1 = 0 then
    (if (x0 >>> (2 &&& 31)) = 0 then
    (some (1, S))
    else
    (some (0, S)))
    else
    (if (x0 &&& 3) = 1 then
    (if (x0 >>> (2 &&& 31)) = 1 then
    (some (0, S))
    else
    (some (1, S)))
    else
    (some (1, S))))
    else
    (some (0, S))))
set_option maxRecDepth 100000 in
set_option maxHeartbeats 4000000 in
theorem wMp_isHow {Γ : vG} (hR : gR Γ = rMp_isHow) (hl : (gl Γ).flags = pinnedFlags ++ [noTraceFlag]) (x0 : Int32) (x1 : Int32) (S : Sx) {X : Int32 × Sx} (h : fMp_isHow x0 x1 S = some X) : vV Γ tMp_isHow (mQ Γ 0 0 0 (some (.int X.1)) X.2) S 0 0 0 [(0, .int x0), (1, .int x1)] [] := by
  unfold fMp_isHow at h
  refine v_iload_n (pc := 0) (show decode (tC tMp_isHow) 0 = .ok (.iload_n 0, 1) by decide +kernel) 0 rfl rfl ?_
  refine v_iconst (pc := 1) (v := 3) (show decode (tC tMp_isHow) 1 = .ok (.iconst 3, 1) by decide +kernel) (by decide) ?_
  refine v_iand (pc := 2) (show decode (tC tMp_isHow) 2 = .ok (.iand, 1) by decide +kernel) ?_
  refine v_istore_n (pc := 3) [(2, .int (x0 &&& 3)), (0, .int x0), (1, .int x1)] (show decode (tC tMp_isHow) 3 = .ok (.istore_n 2, 1) by decide +kernel) rfl (by decide) rfl ?_
  refine v_iload_n (pc := 4) (show decode (tC tMp_isHow) 4 = .ok (.iload_n 0, 1) by decide +kernel) 1 rfl rfl ?_
  refine v_iconst (pc := 5) (v := 2) (show decode (tC tMp_isHow) 5 = .ok (.iconst 2, 1) by decide +kernel) (by decide) ?_
  refine v_ishr (pc := 6) (show decode (tC tMp_isHow) 6 = .ok (.ishr, 1) by decide +kernel) ?_
  refine v_istore_n (pc := 7) [(3, .int (x0 >>> (2 &&& 31))), (2, .int (x0 &&& 3)), (0, .int x0), (1, .int x1)] (show decode (tC tMp_isHow) 7 = .ok (.istore_n 3, 1) by decide +kernel) rfl (by decide) rfl ?_
  refine v_iload_n (pc := 8) (show decode (tC tMp_isHow) 8 = .ok (.iload_n 2, 1) by decide +kernel) 1 rfl rfl ?_
  refine v_iconst (pc := 9) (v := 2) (show decode (tC tMp_isHow) 9 = .ok (.iconst 2, 1) by decide +kernel) (by decide) ?_
  refine v_icmp_gt (pc := 10) 22 (show decode (tC tMp_isHow) 10 = .ok (.if_icmp .gt 12, 3) by decide +kernel) (by decide) (fun c => ?_) (fun c => ?_)
  · replace h := ite_t c h
    refine v_iconst (pc := 22) (v := 0) (show decode (tC tMp_isHow) 22 = .ok (.iconst 0, 1) by decide +kernel) (by decide) ?_
    obtain rfl := Option.some.inj h
    refine v_wide (ce2 := 0) (sl2 := 0) (by decide) (by decide) ?_
    exact v_zret (pc := 23) rfl (Or.inl rfl) (show decode (tC tMp_isHow) 23 = .ok (.ireturn, 1) by decide +kernel)
  · replace h := ite_f c h
    refine v_iload_n (pc := 13) (show decode (tC tMp_isHow) 13 = .ok (.iload_n 3, 1) by decide +kernel) 0 rfl rfl ?_
    refine v_if_lt (pc := 14) 22 (show decode (tC tMp_isHow) 14 = .ok (.ifCond .lt 8, 3) by decide +kernel) (by decide) (fun c => ?_) (fun c => ?_)
    · replace h := ite_t c h
      refine v_iconst (pc := 22) (v := 0) (show decode (tC tMp_isHow) 22 = .ok (.iconst 0, 1) by decide +kernel) (by decide) ?_
      obtain rfl := Option.some.inj h
      refine v_wide (ce2 := 0) (sl2 := 0) (by decide) (by decide) ?_
      exact v_zret (pc := 23) rfl (Or.inl rfl) (show decode (tC tMp_isHow) 23 = .ok (.ireturn, 1) by decide +kernel)
    · replace h := ite_f c h
      refine v_iload_n (pc := 17) (show decode (tC tMp_isHow) 17 = .ok (.iload_n 3, 1) by decide +kernel) 0 rfl rfl ?_
      refine v_iconst (pc := 18) (v := 2) (show decode (tC tMp_isHow) 18 = .ok (.iconst 2, 1) by decide +kernel) (by decide) ?_
      refine v_icmp_le (pc := 19) 24 (show decode (tC tMp_isHow) 19 = .ok (.if_icmp .le 5, 3) by decide +kernel) (by decide) (fun c => ?_) (fun c => ?_)
      · replace h := ite_t c h
        refine v_iload_n (pc := 24) (show decode (tC tMp_isHow) 24 = .ok (.iload_n 1, 1) by decide +kernel) 3 rfl rfl ?_
        refine v_if_eq (pc := 25) 46 (show decode (tC tMp_isHow) 25 = .ok (.ifCond .eq 21, 3) by decide +kernel) (by decide) (fun c => ?_) (fun c => ?_)
        · replace h := ite_t c h
          refine v_iload_n (pc := 46) (show decode (tC tMp_isHow) 46 = .ok (.iload_n 3, 1) by decide +kernel) 0 rfl rfl ?_
          refine v_if_ne (pc := 47) 54 (show decode (tC tMp_isHow) 47 = .ok (.ifCond .ne 7, 3) by decide +kernel) (by decide) (fun c => ?_) (fun c => ?_)
          · replace h := ite_f c h
            refine v_iconst (pc := 54) (v := 0) (show decode (tC tMp_isHow) 54 = .ok (.iconst 0, 1) by decide +kernel) (by decide) ?_
            obtain rfl := Option.some.inj h
            refine v_wide (ce2 := 0) (sl2 := 0) (by decide) (by decide) ?_
            exact v_zret (pc := 55) rfl (Or.inl rfl) (show decode (tC tMp_isHow) 55 = .ok (.ireturn, 1) by decide +kernel)
          · replace h := ite_t c h
            refine v_iconst (pc := 50) (v := 1) (show decode (tC tMp_isHow) 50 = .ok (.iconst 1, 1) by decide +kernel) (by decide) ?_
            refine v_goto (pc := 51) 55 (show decode (tC tMp_isHow) 51 = .ok (.goto 4, 3) by decide +kernel) (by decide) ?_
            obtain rfl := Option.some.inj h
            refine v_wide (ce2 := 0) (sl2 := 0) (by decide) (by decide) ?_
            exact v_zret (pc := 55) rfl (Or.inr rfl) (show decode (tC tMp_isHow) 55 = .ok (.ireturn, 1) by decide +kernel)
        · replace h := ite_f c h
          refine v_iload_n (pc := 28) (show decode (tC tMp_isHow) 28 = .ok (.iload_n 2, 1) by decide +kernel) 1 rfl rfl ?_
          refine v_iconst (pc := 29) (v := 1) (show decode (tC tMp_isHow) 29 = .ok (.iconst 1, 1) by decide +kernel) (by decide) ?_
          refine v_icmp_ne (pc := 30) 38 (show decode (tC tMp_isHow) 30 = .ok (.if_icmp .ne 8, 3) by decide +kernel) (by decide) (fun c => ?_) (fun c => ?_)
          · replace h := ite_f c h
            refine v_iconst (pc := 38) (v := 1) (show decode (tC tMp_isHow) 38 = .ok (.iconst 1, 1) by decide +kernel) (by decide) ?_
            refine v_goto (pc := 39) 55 (show decode (tC tMp_isHow) 39 = .ok (.goto 16, 3) by decide +kernel) (by decide) ?_
            obtain rfl := Option.some.inj h
            refine v_wide (ce2 := 0) (sl2 := 0) (by decide) (by decide) ?_
            exact v_zret (pc := 55) rfl (Or.inr rfl) (show decode (tC tMp_isHow) 55 = .ok (.ireturn, 1) by decide +kernel)
          · replace h := ite_t c h
            refine v_iload_n (pc := 33) (show decode (tC tMp_isHow) 33 = .ok (.iload_n 3, 1) by decide +kernel) 0 rfl rfl ?_
            refine v_iconst (pc := 34) (v := 1) (show decode (tC tMp_isHow) 34 = .ok (.iconst 1, 1) by decide +kernel) (by decide) ?_
            refine v_icmp_eq (pc := 35) 42 (show decode (tC tMp_isHow) 35 = .ok (.if_icmp .eq 7, 3) by decide +kernel) (by decide) (fun c => ?_) (fun c => ?_)
            · replace h := ite_t c h
              refine v_iconst (pc := 42) (v := 0) (show decode (tC tMp_isHow) 42 = .ok (.iconst 0, 1) by decide +kernel) (by decide) ?_
              refine v_goto (pc := 43) 55 (show decode (tC tMp_isHow) 43 = .ok (.goto 12, 3) by decide +kernel) (by decide) ?_
              obtain rfl := Option.some.inj h
              refine v_wide (ce2 := 0) (sl2 := 0) (by decide) (by decide) ?_
              exact v_zret (pc := 55) rfl (Or.inl rfl) (show decode (tC tMp_isHow) 55 = .ok (.ireturn, 1) by decide +kernel)
            · replace h := ite_f c h
              refine v_iconst (pc := 38) (v := 1) (show decode (tC tMp_isHow) 38 = .ok (.iconst 1, 1) by decide +kernel) (by decide) ?_
              refine v_goto (pc := 39) 55 (show decode (tC tMp_isHow) 39 = .ok (.goto 16, 3) by decide +kernel) (by decide) ?_
              obtain rfl := Option.some.inj h
              refine v_wide (ce2 := 0) (sl2 := 0) (by decide) (by decide) ?_
              exact v_zret (pc := 55) rfl (Or.inr rfl) (show decode (tC tMp_isHow) 55 = .ok (.ireturn, 1) by decide +kernel)
      · replace h := ite_f c h
        refine v_iconst (pc := 22) (v := 0) (show decode (tC tMp_isHow) 22 = .ok (.iconst 0, 1) by decide +kernel) (by decide) ?_
        obtain rfl := Option.some.inj h
        refine v_wide (ce2 := 0) (sl2 := 0) (by decide) (by decide) ?_
        exact v_zret (pc := 23) rfl (Or.inl rfl) (show decode (tC tMp_isHow) 23 = .ok (.ireturn, 1) by decide +kernel)
theorem cMp_isHow {l : Launch} (hl : l.flags = pinnedFlags ++ [noTraceFlag]) {D : va_G} {dA : Nat → ClassId} {B : Nat} {x0 : Int32} {x1 : Int32} {S : Sx} {X : Int32 × Sx} (h : fMp_isHow x0 x1 S = some X) : Mx l yMp_isHow tMp_isHow rMp_isHow 0 0 D dA B S [.int x0, .int x1] 0 (some (.int X.1)) X.2 :=
  mx_of hl (by decide) rfl rfl (Nat.le_of_ble_eq_true rfl) (fun Γ e1 e2 e3 e4 e5 => by subst e1; subst e3; subst e4; subst e5; exact wMp_isHow e2 hl x0 x1 S h)
/-! MatchPipe$Bits.copy(LMatchPipe$Bits;)V -/
def yBi_copy : MethodName := ⟨"MatchPipe$Bits", "copy", "(LMatchPipe$Bits;)V"⟩
def tBi_copy : tM := (prog_3_method_3_code, "MatchPipe$Bits", 2, "copy", none, [])
def rBi_copy : Room := { frames := 1, cells := 0, slots := 0, locals := 60 }
theorem kBi_copy : cOf yBi_copy tBi_copy ∈ gT := gT_in 996 (by decide +kernel) rfl
theorem iBi_copy : Cond.initialized yBi_copy.cls ∈ gT := gT_in 65 (by decide +kernel) rfl
theorem mBi_copy : okM yBi_copy 1 := ⟨by decide, by decide, by unfold nPar; decide +kernel⟩
theorem nBi_copy : Cond.instanceMethod yBi_copy ∈ gT := gT_in 994 (by decide +kernel) rfl
theorem lBi_copy : Cond.selects "MatchPipe$Bits" yBi_copy yBi_copy ∈ gT := gT_in 995 (by decide +kernel) rfl
def fBi_copy (x0 : Nat) (x1 : Nat) (S : Sx) : Option (Sx) :=
    (gX S 10 0 x1).bind fun v1 =>
    (gX S 10 0 x0).bind fun v3 =>
    (gX S 10 0 x0).bind fun v5 =>
    (lnI S v5).bind fun v7 =>
    (cpI S v1 0 v3 0 v7).bind fun S9 =>
    some S9
set_option maxRecDepth 100000 in
set_option maxHeartbeats 4000000 in
theorem wBi_copy {Γ : vG} (hR : gR Γ = rBi_copy) (hl : (gl Γ).flags = pinnedFlags ++ [noTraceFlag]) (x0 : Nat) (x1 : Nat) (S : Sx) {X : Sx} (h : fBi_copy x0 x1 S = some X) : vV Γ tBi_copy (mQ Γ 0 0 0 none X) S 0 0 0 [(0, .ref x0), (1, .ref x1)] [] := by
  unfold fBi_copy at h
  refine v_aload_n (pc := 0) (show decode (tC tBi_copy) 0 = .ok (.aload_n 1, 1) by decide +kernel) 1 rfl rfl ?_
  obtain ⟨v1, e2, h⟩ := ob h
  refine v_getX (pc := 1) oF_Bi_9 e2 (show decode (tC tBi_copy) 1 = .ok (.getfield 9, 3) by decide +kernel) ?_
  refine v_iconst (pc := 4) (v := 0) (show decode (tC tBi_copy) 4 = .ok (.iconst 0, 1) by decide +kernel) (by decide) ?_
  refine v_aload_n (pc := 5) (show decode (tC tBi_copy) 5 = .ok (.aload_n 0, 1) by decide +kernel) 0 rfl rfl ?_
  obtain ⟨v3, e4, h⟩ := ob h
  refine v_getX (pc := 6) oF_Bi_9 e4 (show decode (tC tBi_copy) 6 = .ok (.getfield 9, 3) by decide +kernel) ?_
  refine v_iconst (pc := 9) (v := 0) (show decode (tC tBi_copy) 9 = .ok (.iconst 0, 1) by decide +kernel) (by decide) ?_
  refine v_aload_n (pc := 10) (show decode (tC tBi_copy) 10 = .ok (.aload_n 0, 1) by decide +kernel) 0 rfl rfl ?_
  obtain ⟨v5, e6, h⟩ := ob h
  refine v_getX (pc := 11) oF_Bi_9 e6 (show decode (tC tBi_copy) 11 = .ok (.getfield 9, 3) by decide +kernel) ?_
  obtain ⟨v7, e8, h⟩ := ob h
  refine v_alen (pc := 14) e8 (show decode (tC tBi_copy) 14 = .ok (.arraylength, 1) by decide +kernel) ?_
  obtain ⟨S9, e10, h⟩ := ob h
  refine v_cpy (pc := 15) e10 (gT_in 997 (by decide +kernel) rfl) (by rw [hR]; decide) (by rw [hR]; decide) (show decode (tC tBi_copy) 15 = .ok (.invokestatic 21, 3) by decide +kernel) ?_
  obtain rfl := Option.some.inj h
  refine v_wide (ce2 := 0) (sl2 := 0) (by decide) (by decide) ?_
  exact v_vret (pc := 18) rfl (show decode (tC tBi_copy) 18 = .ok (.return_, 1) by decide +kernel)
theorem cBi_copy {l : Launch} (hl : l.flags = pinnedFlags ++ [noTraceFlag]) {D : va_G} {dA : Nat → ClassId} {B : Nat} {x0 : Nat} {x1 : Nat} {S : Sx} {X : Sx} (h : fBi_copy x0 x1 S = some X) : Mx l yBi_copy tBi_copy rBi_copy 0 0 D dA B S [.ref x0, .ref x1] 0 none X :=
  mx_of hl (by decide) rfl rfl (Nat.le_of_ble_eq_true rfl) (fun Γ e1 e2 e3 e4 e5 => by subst e1; subst e3; subst e4; subst e5; exact wBi_copy e2 hl x0 x1 S h)
