theorem oF_Md_82 : okF "MatchPipeModel" 82 12 32 1 := ⟨_, rfl, by decide, gT_in 1211 (by decide +kernel) rfl, rfl⟩
theorem oF_Md_170 : okF "MatchPipeModel" 170 12 72 1 := ⟨_, rfl, by decide, gT_in 1251 (by decide +kernel) rfl, rfl⟩
/-! MatchPipeModel.leads(II)Z -/
def yMd_leads : MethodName := ⟨"MatchPipeModel", "leads", "(II)Z"⟩
def tMd_leads : tM := (prog_14_method_19_code, "MatchPipeModel", 5, "leads", some .boolean, [])
def rMd_leads : Room := { frames := 0, cells := 0, slots := 0, locals := 0 }
theorem kMd_leads : cOf yMd_leads tMd_leads ∈ gT := gT_in 1491 (by decide +kernel) rfl
theorem iMd_leads : Cond.initialized yMd_leads.cls ∈ gT := gT_in 68 (by decide +kernel) rfl
theorem mMd_leads : okM yMd_leads 2 := ⟨by decide, by decide, by unfold nPar; decide +kernel⟩
theorem nMd_leads : Cond.instanceMethod yMd_leads ∈ gT := gT_in 1490 (by decide +kernel) rfl
theorem lMd_leads : Cond.selects "MatchPipeModel" yMd_leads yMd_leads ∈ gT := gT_in 28 (by decide +kernel) rfl
def fMd_leads_21  : Nat → Nat → Int32 → Int32 → Int32 → Int32 → Sx → Option (Int32 × Sx)
  | 0, _, _, _, _, _, _ => none
  | n + 1, x0, x1, x2, x3, x4, S =>
    (gX S 12 11 x0).bind fun v1 =>
    (aI S v1 x1).bind fun v3 =>
    if ((4 * x1) + v3) ≤ x4 then
    (zb x3 (some (x3, S)))
    else
    ((gX S 12 10 x0).bind fun v6 =>
    (aI S v6 x1).bind fun v8 =>
    if v8 < 0 then
    (zb x3 (some (x3, S)))
    else
    (if x3 = 0 then
    ((gX S 12 14 x0).bind fun v11 =>
    (aI S v11 x4).bind fun v13 =>
    if v13 = x2 then
    (fMd_leads_21 n x0 x1 x2 1 (x4 + 1) S)
    else
    (fMd_leads_21 n x0 x1 x2 0 (x4 + 1) S))
    else
    (fMd_leads_21 n x0 x1 x2 1 (x4 + 1) S)))
set_option maxRecDepth 100000 in
set_option maxHeartbeats 4000000 in
theorem wMd_leads_21 {Γ : vG} (hR : gR Γ = rMd_leads) (hl : (gl Γ).flags = pinnedFlags ++ [noTraceFlag]) {X : Int32 × Sx}  : ∀ (n : Nat) (x0 : Nat) (x1 : Int32) (x2 : Int32) (x3 : Int32) (x4 : Int32) (S : Sx), fMd_leads_21  n x0 x1 x2 x3 x4 S = some X → vV Γ tMd_leads (mQ Γ 0 0 0 (some (.int X.1)) X.2) S 0 0 21 [(0, .ref x0), (1, .int x1), (2, .int x2), (3, .int x3), (4, .int x4)] [] := by
  intro n
  induction n with
  | zero => intro x0 x1 x2 x3 x4 S h; rw [fMd_leads_21] at h; cases h
  | succ n ih =>
    intro x0 x1 x2 x3 x4 S h
    rw [fMd_leads_21] at h
    refine v_iload (pc := 21) (show decode (tC tMd_leads) 21 = .ok (.iload 4, 2) by decide +kernel) 4 rfl ?_
    refine v_iconst (pc := 23) (v := 4) (show decode (tC tMd_leads) 23 = .ok (.iconst 4, 1) by decide +kernel) (by decide) ?_
    refine v_iload_n (pc := 24) (show decode (tC tMd_leads) 24 = .ok (.iload_n 1, 1) by decide +kernel) 1 rfl rfl ?_
    refine v_imul (pc := 25) (show decode (tC tMd_leads) 25 = .ok (.imul, 1) by decide +kernel) ?_
    refine v_aload_n (pc := 26) (show decode (tC tMd_leads) 26 = .ok (.aload_n 0, 1) by decide +kernel) 0 rfl rfl ?_
    obtain ⟨v1, e2, h⟩ := ob h
    refine v_getX (pc := 27) oF_Md_19 e2 (show decode (tC tMd_leads) 27 = .ok (.getfield 19, 3) by decide +kernel) ?_
    refine v_iload_n (pc := 30) (show decode (tC tMd_leads) 30 = .ok (.iload_n 1, 1) by decide +kernel) 1 rfl rfl ?_
    obtain ⟨v3, e4, h⟩ := ob h
    refine v_iald (pc := 31) e4 (show decode (tC tMd_leads) 31 = .ok (.iaload, 1) by decide +kernel) ?_
    refine v_iadd (pc := 32) (show decode (tC tMd_leads) 32 = .ok (.iadd, 1) by decide +kernel) ?_
    refine v_icmp_ge (pc := 33) 72 (show decode (tC tMd_leads) 33 = .ok (.if_icmp .ge 39, 3) by decide +kernel) (by decide) (fun c => ?_) (fun c => ?_)
    · replace h := ite_t c h
      refine v_iload_n (pc := 72) (show decode (tC tMd_leads) 72 = .ok (.iload_n 3, 1) by decide +kernel) 3 rfl rfl ?_
      obtain ⟨e5, h⟩ := zb_of h
      obtain rfl := Option.some.inj h
      refine v_wide (ce2 := 0) (sl2 := 0) (by decide) (by decide) ?_
      exact v_zret (pc := 73) rfl e5 (show decode (tC tMd_leads) 73 = .ok (.ireturn, 1) by decide +kernel)
    · replace h := ite_f c h
      refine v_aload_n (pc := 36) (show decode (tC tMd_leads) 36 = .ok (.aload_n 0, 1) by decide +kernel) 0 rfl rfl ?_
      obtain ⟨v6, e7, h⟩ := ob h
      refine v_getX (pc := 37) oF_Md_16 e7 (show decode (tC tMd_leads) 37 = .ok (.getfield 16, 3) by decide +kernel) ?_
      refine v_iload_n (pc := 40) (show decode (tC tMd_leads) 40 = .ok (.iload_n 1, 1) by decide +kernel) 1 rfl rfl ?_
      obtain ⟨v8, e9, h⟩ := ob h
      refine v_iald (pc := 41) e9 (show decode (tC tMd_leads) 41 = .ok (.iaload, 1) by decide +kernel) ?_
      refine v_if_lt (pc := 42) 72 (show decode (tC tMd_leads) 42 = .ok (.ifCond .lt 30, 3) by decide +kernel) (by decide) (fun c => ?_) (fun c => ?_)
      · replace h := ite_t c h
        refine v_iload_n (pc := 72) (show decode (tC tMd_leads) 72 = .ok (.iload_n 3, 1) by decide +kernel) 3 rfl rfl ?_
        obtain ⟨e10, h⟩ := zb_of h
        obtain rfl := Option.some.inj h
        refine v_wide (ce2 := 0) (sl2 := 0) (by decide) (by decide) ?_
        exact v_zret (pc := 73) rfl e10 (show decode (tC tMd_leads) 73 = .ok (.ireturn, 1) by decide +kernel)
      · replace h := ite_f c h
        refine v_iload_n (pc := 45) (show decode (tC tMd_leads) 45 = .ok (.iload_n 3, 1) by decide +kernel) 3 rfl rfl ?_
        refine v_if_ne (pc := 46) 60 (show decode (tC tMd_leads) 46 = .ok (.ifCond .ne 14, 3) by decide +kernel) (by decide) (fun c => ?_) (fun c => ?_)
        · replace h := ite_f c h
          refine v_iconst (pc := 60) (v := 1) (show decode (tC tMd_leads) 60 = .ok (.iconst 1, 1) by decide +kernel) (by decide) ?_
          refine v_goto (pc := 61) 65 (show decode (tC tMd_leads) 61 = .ok (.goto 4, 3) by decide +kernel) (by decide) ?_
          refine v_istore_n (pc := 65) [(3, .int 1), (0, .ref x0), (1, .int x1), (2, .int x2), (4, .int x4)] (show decode (tC tMd_leads) 65 = .ok (.istore_n 3, 1) by decide +kernel) rfl (by decide) rfl ?_
          refine v_iinc (pc := 66) (j := 4) [(4, .int (x4 + 1)), (3, .int 1), (0, .ref x0), (1, .int x1), (2, .int x2)] (show decode (tC tMd_leads) 66 = .ok (.iinc 4 1, 3) by decide +kernel) rfl rfl (by decide) rfl ?_
          refine v_goto (pc := 69) 21 (show decode (tC tMd_leads) 69 = .ok (.goto (-48), 3) by decide +kernel) (by decide) ?_
          refine v_sub [(0, .ref x0), (1, .int x1), (2, .int x2), (3, .int 1), (4, .int (x4 + 1))] [2, 3, 4, 1, 0] rfl ?_
          exact ih x0 x1 x2 1 (x4 + 1) S h
        · replace h := ite_t c h
          refine v_aload_n (pc := 49) (show decode (tC tMd_leads) 49 = .ok (.aload_n 0, 1) by decide +kernel) 0 rfl rfl ?_
          obtain ⟨v11, e12, h⟩ := ob h
          refine v_getX (pc := 50) oF_Md_28 e12 (show decode (tC tMd_leads) 50 = .ok (.getfield 28, 3) by decide +kernel) ?_
          refine v_iload (pc := 53) (show decode (tC tMd_leads) 53 = .ok (.iload 4, 2) by decide +kernel) 4 rfl ?_
          obtain ⟨v13, e14, h⟩ := ob h
          refine v_iald (pc := 55) e14 (show decode (tC tMd_leads) 55 = .ok (.iaload, 1) by decide +kernel) ?_
          refine v_iload_n (pc := 56) (show decode (tC tMd_leads) 56 = .ok (.iload_n 2, 1) by decide +kernel) 2 rfl rfl ?_
          refine v_icmp_ne (pc := 57) 64 (show decode (tC tMd_leads) 57 = .ok (.if_icmp .ne 7, 3) by decide +kernel) (by decide) (fun c => ?_) (fun c => ?_)
          · replace h := ite_f c h
            refine v_iconst (pc := 64) (v := 0) (show decode (tC tMd_leads) 64 = .ok (.iconst 0, 1) by decide +kernel) (by decide) ?_
            refine v_istore_n (pc := 65) [(3, .int 0), (0, .ref x0), (1, .int x1), (2, .int x2), (4, .int x4)] (show decode (tC tMd_leads) 65 = .ok (.istore_n 3, 1) by decide +kernel) rfl (by decide) rfl ?_
            refine v_iinc (pc := 66) (j := 4) [(4, .int (x4 + 1)), (3, .int 0), (0, .ref x0), (1, .int x1), (2, .int x2)] (show decode (tC tMd_leads) 66 = .ok (.iinc 4 1, 3) by decide +kernel) rfl rfl (by decide) rfl ?_
            refine v_goto (pc := 69) 21 (show decode (tC tMd_leads) 69 = .ok (.goto (-48), 3) by decide +kernel) (by decide) ?_
            refine v_sub [(0, .ref x0), (1, .int x1), (2, .int x2), (3, .int 0), (4, .int (x4 + 1))] [2, 3, 4, 1, 0] rfl ?_
            exact ih x0 x1 x2 0 (x4 + 1) S h
          · replace h := ite_t c h
            refine v_iconst (pc := 60) (v := 1) (show decode (tC tMd_leads) 60 = .ok (.iconst 1, 1) by decide +kernel) (by decide) ?_
            refine v_goto (pc := 61) 65 (show decode (tC tMd_leads) 61 = .ok (.goto 4, 3) by decide +kernel) (by decide) ?_
            refine v_istore_n (pc := 65) [(3, .int 1), (0, .ref x0), (1, .int x1), (2, .int x2), (4, .int x4)] (show decode (tC tMd_leads) 65 = .ok (.istore_n 3, 1) by decide +kernel) rfl (by decide) rfl ?_
            refine v_iinc (pc := 66) (j := 4) [(4, .int (x4 + 1)), (3, .int 1), (0, .ref x0), (1, .int x1), (2, .int x2)] (show decode (tC tMd_leads) 66 = .ok (.iinc 4 1, 3) by decide +kernel) rfl rfl (by decide) rfl ?_
            refine v_goto (pc := 69) 21 (show decode (tC tMd_leads) 69 = .ok (.goto (-48), 3) by decide +kernel) (by decide) ?_
            refine v_sub [(0, .ref x0), (1, .int x1), (2, .int x2), (3, .int 1), (4, .int (x4 + 1))] [2, 3, 4, 1, 0] rfl ?_
            exact ih x0 x1 x2 1 (x4 + 1) S h
def fMd_leads (x0 : Nat) (x1 : Int32) (x2 : Int32) (S : Sx) : Option (Int32 × Sx) :=
    (gX S 12 15 x0).bind fun v1 =>
    (aI S v1 x1).bind fun v3 =>
    if v3 = x2 then
    (fMd_leads_21  fuel x0 x1 x2 1 (4 * x1) S)
    else
    (fMd_leads_21  fuel x0 x1 x2 0 (4 * x1) S)
set_option maxRecDepth 100000 in
set_option maxHeartbeats 4000000 in
theorem wMd_leads {Γ : vG} (hR : gR Γ = rMd_leads) (hl : (gl Γ).flags = pinnedFlags ++ [noTraceFlag]) (x0 : Nat) (x1 : Int32) (x2 : Int32) (S : Sx) {X : Int32 × Sx} (h : fMd_leads x0 x1 x2 S = some X) : vV Γ tMd_leads (mQ Γ 0 0 0 (some (.int X.1)) X.2) S 0 0 0 [(0, .ref x0), (1, .int x1), (2, .int x2)] [] := by
  unfold fMd_leads at h
  refine v_aload_n (pc := 0) (show decode (tC tMd_leads) 0 = .ok (.aload_n 0, 1) by decide +kernel) 0 rfl rfl ?_
  obtain ⟨v1, e2, h⟩ := ob h
  refine v_getX (pc := 1) oF_Md_31 e2 (show decode (tC tMd_leads) 1 = .ok (.getfield 31, 3) by decide +kernel) ?_
  refine v_iload_n (pc := 4) (show decode (tC tMd_leads) 4 = .ok (.iload_n 1, 1) by decide +kernel) 1 rfl rfl ?_
  obtain ⟨v3, e4, h⟩ := ob h
  refine v_iald (pc := 5) e4 (show decode (tC tMd_leads) 5 = .ok (.iaload, 1) by decide +kernel) ?_
  refine v_iload_n (pc := 6) (show decode (tC tMd_leads) 6 = .ok (.iload_n 2, 1) by decide +kernel) 2 rfl rfl ?_
  refine v_icmp_ne (pc := 7) 14 (show decode (tC tMd_leads) 7 = .ok (.if_icmp .ne 7, 3) by decide +kernel) (by decide) (fun c => ?_) (fun c => ?_)
  · replace h := ite_f c h
    refine v_iconst (pc := 14) (v := 0) (show decode (tC tMd_leads) 14 = .ok (.iconst 0, 1) by decide +kernel) (by decide) ?_
    refine v_istore_n (pc := 15) [(3, .int 0), (0, .ref x0), (1, .int x1), (2, .int x2)] (show decode (tC tMd_leads) 15 = .ok (.istore_n 3, 1) by decide +kernel) rfl (by decide) rfl ?_
    refine v_iconst (pc := 16) (v := 4) (show decode (tC tMd_leads) 16 = .ok (.iconst 4, 1) by decide +kernel) (by decide) ?_
    refine v_iload_n (pc := 17) (show decode (tC tMd_leads) 17 = .ok (.iload_n 1, 1) by decide +kernel) 2 rfl rfl ?_
    refine v_imul (pc := 18) (show decode (tC tMd_leads) 18 = .ok (.imul, 1) by decide +kernel) ?_
    refine v_istore (pc := 19) [(4, .int (4 * x1)), (3, .int 0), (0, .ref x0), (1, .int x1), (2, .int x2)] (show decode (tC tMd_leads) 19 = .ok (.istore 4, 2) by decide +kernel) (by decide) rfl ?_
    refine v_sub [(0, .ref x0), (1, .int x1), (2, .int x2), (3, .int 0), (4, .int (4 * x1))] [2, 3, 4, 1, 0] rfl ?_
    exact wMd_leads_21 hR hl  fuel x0 x1 x2 0 (4 * x1) S h
  · replace h := ite_t c h
    refine v_iconst (pc := 10) (v := 1) (show decode (tC tMd_leads) 10 = .ok (.iconst 1, 1) by decide +kernel) (by decide) ?_
    refine v_goto (pc := 11) 15 (show decode (tC tMd_leads) 11 = .ok (.goto 4, 3) by decide +kernel) (by decide) ?_
    refine v_istore_n (pc := 15) [(3, .int 1), (0, .ref x0), (1, .int x1), (2, .int x2)] (show decode (tC tMd_leads) 15 = .ok (.istore_n 3, 1) by decide +kernel) rfl (by decide) rfl ?_
    refine v_iconst (pc := 16) (v := 4) (show decode (tC tMd_leads) 16 = .ok (.iconst 4, 1) by decide +kernel) (by decide) ?_
    refine v_iload_n (pc := 17) (show decode (tC tMd_leads) 17 = .ok (.iload_n 1, 1) by decide +kernel) 2 rfl rfl ?_
    refine v_imul (pc := 18) (show decode (tC tMd_leads) 18 = .ok (.imul, 1) by decide +kernel) ?_
    refine v_istore (pc := 19) [(4, .int (4 * x1)), (3, .int 1), (0, .ref x0), (1, .int x1), (2, .int x2)] (show decode (tC tMd_leads) 19 = .ok (.istore 4, 2) by decide +kernel) (by decide) rfl ?_
    refine v_sub [(0, .ref x0), (1, .int x1), (2, .int x2), (3, .int 1), (4, .int (4 * x1))] [2, 3, 4, 1, 0] rfl ?_
    exact wMd_leads_21 hR hl  fuel x0 x1 x2 1 (4 * x1) S h
theorem cMd_leads {l : Launch} (hl : l.flags = pinnedFlags ++ [noTraceFlag]) {D : va_G} {dA : Nat → ClassId} {B : Nat} {x0 : Nat} {x1 : Int32} {x2 : Int32} {S : Sx} {X : Int32 × Sx} (h : fMd_leads x0 x1 x2 S = some X) : Mx l yMd_leads tMd_leads rMd_leads 0 0 D dA B S [.ref x0, .int x1, .int x2] 0 (some (.int X.1)) X.2 :=
  mx_of hl (by decide) rfl rfl (Nat.le_of_ble_eq_true rfl) (fun Γ e1 e2 e3 e4 e5 => by subst e1; subst e3; subst e4; subst e5; exact wMd_leads e2 hl x0 x1 x2 S h)
/-! MatchPipeModel.comesRound(I)Z -/
def yMd_comesRound : MethodName := ⟨"MatchPipeModel", "comesRound", "(I)Z"⟩
def tMd_comesRound : tM := (prog_14_method_20_code, "MatchPipeModel", 5, "comesRound", some .boolean, [])
def rMd_comesRound : Room := { frames := 1, cells := 0, slots := 0, locals := 24 }
theorem kMd_comesRound : cOf yMd_comesRound tMd_comesRound ∈ gT := gT_in 1487 (by decide +kernel) rfl
theorem iMd_comesRound : Cond.initialized yMd_comesRound.cls ∈ gT := gT_in 68 (by decide +kernel) rfl
theorem mMd_comesRound : okM yMd_comesRound 1 := ⟨by decide, by decide, by unfold nPar; decide +kernel⟩
theorem nMd_comesRound : Cond.instanceMethod yMd_comesRound ∈ gT := gT_in 1486 (by decide +kernel) rfl
theorem lMd_comesRound : Cond.selects "MatchPipeModel" yMd_comesRound yMd_comesRound ∈ gT := gT_in 27 (by decide +kernel) rfl
def fMd_comesRound_112 (k78 : Nat → Int32 → Int32 → Int32 → Sx → Option (Int32 × Sx)) : Nat → Nat → Int32 → Int32 → Int32 → Int32 → Sx → Option (Int32 × Sx)
  | 0, _, _, _, _, _, _ => none
  | n + 1, x0, x1, x2, x3, x4, S =>
    (gI S 12 2 x0).bind fun v1 =>
    if v1 ≤ x4 then
    (k78 x0 x1 x2 (x3 + 1) S)
    else
    ((gX S 12 72 x0).bind fun v3 =>
    (aZ S v3 x4).bind fun v5 =>
    if v5 = 0 then
    ((ckd S x0 12).bind fun _ =>
    bd2 (fMd_leads x0 x3 x4 S) fun r9 S10 =>
    if r9 = 0 then
    (fMd_comesRound_112 k78 n x0 x1 x2 x3 (x4 + 1) S10)
    else
    ((gX S10 12 72 x0).bind fun v11 =>
    (qZ S10 v11 x4 1).bind fun S13 =>
    fMd_comesRound_112 k78 n x0 x1 1 x3 (x4 + 1) S13))
    else
    (fMd_comesRound_112 k78 n x0 x1 x2 x3 (x4 + 1) S))
set_option maxRecDepth 100000 in
set_option maxHeartbeats 4000000 in
theorem wMd_comesRound_112 {Γ : vG} (hR : gR Γ = rMd_comesRound) (hl : (gl Γ).flags = pinnedFlags ++ [noTraceFlag]) {X : Int32 × Sx} {k78 : Nat → Int32 → Int32 → Int32 → Sx → Option (Int32 × Sx)} (hk78 : ∀ (x0 : Nat) (x1 : Int32) (x2 : Int32) (x3 : Int32) (S : Sx), k78 x0 x1 x2 x3 S = some X → vV Γ tMd_comesRound (mQ Γ 0 0 0 (some (.int X.1)) X.2) S 0 0 78 [(0, .ref x0), (1, .int x1), (2, .int x2), (3, .int x3)] []) : ∀ (n : Nat) (x0 : Nat) (x1 : Int32) (x2 : Int32) (x3 : Int32) (x4 : Int32) (S : Sx), fMd_comesRound_112 k78 n x0 x1 x2 x3 x4 S = some X → vV Γ tMd_comesRound (mQ Γ 0 0 0 (some (.int X.1)) X.2) S 0 0 112 [(0, .ref x0), (1, .int x1), (2, .int x2), (3, .int x3), (4, .int x4)] [] := by
  intro n
  induction n with
  | zero => intro x0 x1 x2 x3 x4 S h; rw [fMd_comesRound_112] at h; cases h
  | succ n ih =>
    intro x0 x1 x2 x3 x4 S h
    rw [fMd_comesRound_112] at h
    refine v_iload (pc := 112) (show decode (tC tMd_comesRound) 112 = .ok (.iload 4, 2) by decide +kernel) 4 rfl ?_
    refine v_aload_n (pc := 114) (show decode (tC tMd_comesRound) 114 = .ok (.aload_n 0, 1) by decide +kernel) 0 rfl rfl ?_
    obtain ⟨v1, e2, h⟩ := ob h
    refine v_getI (pc := 115) oF_Md_189 (by decide) e2 (show decode (tC tMd_comesRound) 115 = .ok (.getfield 189, 3) by decide +kernel) ?_
    refine v_icmp_ge (pc := 118) 160 (show decode (tC tMd_comesRound) 118 = .ok (.if_icmp .ge 42, 3) by decide +kernel) (by decide) (fun c => ?_) (fun c => ?_)
    · replace h := ite_t c h
      refine v_iinc (pc := 160) (j := 3) [(3, .int (x3 + 1)), (0, .ref x0), (1, .int x1), (2, .int x2), (4, .int x4)] (show decode (tC tMd_comesRound) 160 = .ok (.iinc 3 1, 3) by decide +kernel) rfl rfl (by decide) rfl ?_
      refine v_goto (pc := 163) 78 (show decode (tC tMd_comesRound) 163 = .ok (.goto (-85), 3) by decide +kernel) (by decide) ?_
      refine v_sub [(0, .ref x0), (1, .int x1), (2, .int x2), (3, .int (x3 + 1))] [1, 2, 3, 0] rfl ?_
      exact hk78 x0 x1 x2 (x3 + 1) S h
    · replace h := ite_f c h
      refine v_aload_n (pc := 121) (show decode (tC tMd_comesRound) 121 = .ok (.aload_n 0, 1) by decide +kernel) 0 rfl rfl ?_
      obtain ⟨v3, e4, h⟩ := ob h
      refine v_getX (pc := 122) oF_Md_170 e4 (show decode (tC tMd_comesRound) 122 = .ok (.getfield 170, 3) by decide +kernel) ?_
      refine v_iload (pc := 125) (show decode (tC tMd_comesRound) 125 = .ok (.iload 4, 2) by decide +kernel) 4 rfl ?_
      obtain ⟨v5, e6, h⟩ := ob h
      refine v_zald (pc := 127) e6 (show decode (tC tMd_comesRound) 127 = .ok (.baload, 1) by decide +kernel) ?_
      refine v_if_ne (pc := 128) 154 (show decode (tC tMd_comesRound) 128 = .ok (.ifCond .ne 26, 3) by decide +kernel) (by decide) (fun c => ?_) (fun c => ?_)
      · replace h := ite_f c h
        refine v_iinc (pc := 154) (j := 4) [(4, .int (x4 + 1)), (0, .ref x0), (1, .int x1), (2, .int x2), (3, .int x3)] (show decode (tC tMd_comesRound) 154 = .ok (.iinc 4 1, 3) by decide +kernel) rfl rfl (by decide) rfl ?_
        refine v_goto (pc := 157) 112 (show decode (tC tMd_comesRound) 157 = .ok (.goto (-45), 3) by decide +kernel) (by decide) ?_
        refine v_sub [(0, .ref x0), (1, .int x1), (2, .int x2), (3, .int x3), (4, .int (x4 + 1))] [1, 2, 3, 4, 0] rfl ?_
        exact ih x0 x1 x2 x3 (x4 + 1) S h
      · replace h := ite_t c h
        refine v_aload_n (pc := 131) (show decode (tC tMd_comesRound) 131 = .ok (.aload_n 0, 1) by decide +kernel) 0 rfl rfl ?_
        refine v_iload_n (pc := 132) (show decode (tC tMd_comesRound) 132 = .ok (.iload_n 3, 1) by decide +kernel) 3 rfl rfl ?_
        refine v_iload (pc := 133) (show decode (tC tMd_comesRound) 133 = .ok (.iload 4, 2) by decide +kernel) 4 rfl ?_
        obtain ⟨_, e8, h⟩ := ob h
        obtain ⟨r9, S10, e7, h⟩ := ob2 h
        refine v_call (pc := 135) (v := (some (.int r9))) (y := yMd_leads) (θ' := tMd_leads) (rm := rMd_leads) (av := [.ref x0, .int x3, .int x4]) (st := []) (cMd_leads (l := gl Γ) hl e7) kMd_leads iMd_leads (iv_virt (y := yMd_leads) (θ' := tMd_leads) (kd := 12) (As := [.int x3, .int x4]) rfl (ckd_of e8) kMd_leads (gT_in 1488 (by decide +kernel) rfl) nMd_leads lMd_leads mMd_leads rfl (show decode (tC tMd_comesRound) 135 = .ok (.invokevirtual 251, 3) by decide +kernel)) ⟨by rw [hR]; decide, by rw [hR]; decide, by rw [hR]; decide, by rw [hR]; decide⟩ (Nat.le_of_ble_eq_true rfl) ?_
        refine v_if_ne (pc := 138) 144 (show decode (tC tMd_comesRound) 138 = .ok (.ifCond .ne 6, 3) by decide +kernel) (by decide) (fun c => ?_) (fun c => ?_)
        · replace h := ite_f c h
          refine v_aload_n (pc := 144) (show decode (tC tMd_comesRound) 144 = .ok (.aload_n 0, 1) by decide +kernel) 0 rfl rfl ?_
          obtain ⟨v11, e12, h⟩ := ob h
          refine v_getX (pc := 145) oF_Md_170 e12 (show decode (tC tMd_comesRound) 145 = .ok (.getfield 170, 3) by decide +kernel) ?_
          refine v_iload (pc := 148) (show decode (tC tMd_comesRound) 148 = .ok (.iload 4, 2) by decide +kernel) 4 rfl ?_
          refine v_iconst (pc := 150) (v := 1) (show decode (tC tMd_comesRound) 150 = .ok (.iconst 1, 1) by decide +kernel) (by decide) ?_
          obtain ⟨S13, e14, h⟩ := ob h
          refine v_zast (pc := 151) e14 (show decode (tC tMd_comesRound) 151 = .ok (.bastore, 1) by decide +kernel) ?_
          refine v_iconst (pc := 152) (v := 1) (show decode (tC tMd_comesRound) 152 = .ok (.iconst 1, 1) by decide +kernel) (by decide) ?_
          refine v_istore_n (pc := 153) [(2, .int 1), (0, .ref x0), (1, .int x1), (3, .int x3), (4, .int x4)] (show decode (tC tMd_comesRound) 153 = .ok (.istore_n 2, 1) by decide +kernel) rfl (by decide) rfl ?_
          refine v_iinc (pc := 154) (j := 4) [(4, .int (x4 + 1)), (2, .int 1), (0, .ref x0), (1, .int x1), (3, .int x3)] (show decode (tC tMd_comesRound) 154 = .ok (.iinc 4 1, 3) by decide +kernel) rfl rfl (by decide) rfl ?_
          refine v_goto (pc := 157) 112 (show decode (tC tMd_comesRound) 157 = .ok (.goto (-45), 3) by decide +kernel) (by decide) ?_
          refine v_sub [(0, .ref x0), (1, .int x1), (2, .int 1), (3, .int x3), (4, .int (x4 + 1))] [2, 3, 1, 4, 0] rfl ?_
          exact ih x0 x1 1 x3 (x4 + 1) S13 h
        · replace h := ite_t c h
          refine v_goto (pc := 141) 154 (show decode (tC tMd_comesRound) 141 = .ok (.goto 13, 3) by decide +kernel) (by decide) ?_
          refine v_iinc (pc := 154) (j := 4) [(4, .int (x4 + 1)), (0, .ref x0), (1, .int x1), (2, .int x2), (3, .int x3)] (show decode (tC tMd_comesRound) 154 = .ok (.iinc 4 1, 3) by decide +kernel) rfl rfl (by decide) rfl ?_
          refine v_goto (pc := 157) 112 (show decode (tC tMd_comesRound) 157 = .ok (.goto (-45), 3) by decide +kernel) (by decide) ?_
          refine v_sub [(0, .ref x0), (1, .int x1), (2, .int x2), (3, .int x3), (4, .int (x4 + 1))] [1, 2, 3, 4, 0] rfl ?_
          exact ih x0 x1 x2 x3 (x4 + 1) S10 h
def fMd_comesRound_78 (k70 : Nat → Int32 → Int32 → Sx → Option (Int32 × Sx)) : Nat → Nat → Int32 → Int32 → Int32 → Sx → Option (Int32 × Sx)
  | 0, _, _, _, _, _ => none
  | n + 1, x0, x1, x2, x3, S =>
    (gI S 12 2 x0).bind fun v1 =>
    if v1 ≤ x3 then
    (k70 x0 x1 x2 S)
    else
    ((gX S 12 72 x0).bind fun v3 =>
    (aZ S v3 x3).bind fun v5 =>
    if v5 = 0 then
    (fMd_comesRound_78 k70 n x0 x1 x2 (x3 + 1) S)
    else
    ((gX S 12 9 x0).bind fun v7 =>
    (aI S v7 (4 * x3)).bind fun v9 =>
    if v9 < 0 then
    (fMd_comesRound_112 (fun y0 y1 y2 y3 T => fMd_comesRound_78 k70 n y0 y1 y2 y3 T) fuel x0 x1 x2 x3 0 S)
    else
    (fMd_comesRound_78 k70 n x0 x1 x2 (x3 + 1) S)))
set_option maxRecDepth 100000 in
set_option maxHeartbeats 4000000 in
theorem wMd_comesRound_78 {Γ : vG} (hR : gR Γ = rMd_comesRound) (hl : (gl Γ).flags = pinnedFlags ++ [noTraceFlag]) {X : Int32 × Sx} {k70 : Nat → Int32 → Int32 → Sx → Option (Int32 × Sx)} (hk70 : ∀ (x0 : Nat) (x1 : Int32) (x2 : Int32) (S : Sx), k70 x0 x1 x2 S = some X → vV Γ tMd_comesRound (mQ Γ 0 0 0 (some (.int X.1)) X.2) S 0 0 70 [(0, .ref x0), (1, .int x1), (2, .int x2)] []) : ∀ (n : Nat) (x0 : Nat) (x1 : Int32) (x2 : Int32) (x3 : Int32) (S : Sx), fMd_comesRound_78 k70 n x0 x1 x2 x3 S = some X → vV Γ tMd_comesRound (mQ Γ 0 0 0 (some (.int X.1)) X.2) S 0 0 78 [(0, .ref x0), (1, .int x1), (2, .int x2), (3, .int x3)] [] := by
  intro n
  induction n with
  | zero => intro x0 x1 x2 x3 S h; rw [fMd_comesRound_78] at h; cases h
  | succ n ih =>
    intro x0 x1 x2 x3 S h
    rw [fMd_comesRound_78] at h
    refine v_iload_n (pc := 78) (show decode (tC tMd_comesRound) 78 = .ok (.iload_n 3, 1) by decide +kernel) 3 rfl rfl ?_
    refine v_aload_n (pc := 79) (show decode (tC tMd_comesRound) 79 = .ok (.aload_n 0, 1) by decide +kernel) 0 rfl rfl ?_
    obtain ⟨v1, e2, h⟩ := ob h
    refine v_getI (pc := 80) oF_Md_189 (by decide) e2 (show decode (tC tMd_comesRound) 80 = .ok (.getfield 189, 3) by decide +kernel) ?_
    refine v_icmp_ge (pc := 83) 166 (show decode (tC tMd_comesRound) 83 = .ok (.if_icmp .ge 83, 3) by decide +kernel) (by decide) (fun c => ?_) (fun c => ?_)
    · replace h := ite_t c h
      refine v_goto (pc := 166) 70 (show decode (tC tMd_comesRound) 166 = .ok (.goto (-96), 3) by decide +kernel) (by decide) ?_
      refine v_sub [(0, .ref x0), (1, .int x1), (2, .int x2)] [0, 1, 2] rfl ?_
      exact hk70 x0 x1 x2 S h
    · replace h := ite_f c h
      refine v_aload_n (pc := 86) (show decode (tC tMd_comesRound) 86 = .ok (.aload_n 0, 1) by decide +kernel) 0 rfl rfl ?_
      obtain ⟨v3, e4, h⟩ := ob h
      refine v_getX (pc := 87) oF_Md_170 e4 (show decode (tC tMd_comesRound) 87 = .ok (.getfield 170, 3) by decide +kernel) ?_
      refine v_iload_n (pc := 90) (show decode (tC tMd_comesRound) 90 = .ok (.iload_n 3, 1) by decide +kernel) 3 rfl rfl ?_
      obtain ⟨v5, e6, h⟩ := ob h
      refine v_zald (pc := 91) e6 (show decode (tC tMd_comesRound) 91 = .ok (.baload, 1) by decide +kernel) ?_
      refine v_if_eq (pc := 92) 160 (show decode (tC tMd_comesRound) 92 = .ok (.ifCond .eq 68, 3) by decide +kernel) (by decide) (fun c => ?_) (fun c => ?_)
      · replace h := ite_t c h
        refine v_iinc (pc := 160) (j := 3) [(3, .int (x3 + 1)), (0, .ref x0), (1, .int x1), (2, .int x2)] (show decode (tC tMd_comesRound) 160 = .ok (.iinc 3 1, 3) by decide +kernel) rfl rfl (by decide) rfl ?_
        refine v_goto (pc := 163) 78 (show decode (tC tMd_comesRound) 163 = .ok (.goto (-85), 3) by decide +kernel) (by decide) ?_
        refine v_sub [(0, .ref x0), (1, .int x1), (2, .int x2), (3, .int (x3 + 1))] [1, 2, 3, 0] rfl ?_
        exact ih x0 x1 x2 (x3 + 1) S h
      · replace h := ite_f c h
        refine v_aload_n (pc := 95) (show decode (tC tMd_comesRound) 95 = .ok (.aload_n 0, 1) by decide +kernel) 0 rfl rfl ?_
        obtain ⟨v7, e8, h⟩ := ob h
        refine v_getX (pc := 96) oF_Md_13 e8 (show decode (tC tMd_comesRound) 96 = .ok (.getfield 13, 3) by decide +kernel) ?_
        refine v_iconst (pc := 99) (v := 4) (show decode (tC tMd_comesRound) 99 = .ok (.iconst 4, 1) by decide +kernel) (by decide) ?_
        refine v_iload_n (pc := 100) (show decode (tC tMd_comesRound) 100 = .ok (.iload_n 3, 1) by decide +kernel) 3 rfl rfl ?_
        refine v_imul (pc := 101) (show decode (tC tMd_comesRound) 101 = .ok (.imul, 1) by decide +kernel) ?_
        obtain ⟨v9, e10, h⟩ := ob h
        refine v_iald (pc := 102) e10 (show decode (tC tMd_comesRound) 102 = .ok (.iaload, 1) by decide +kernel) ?_
        refine v_if_lt (pc := 103) 109 (show decode (tC tMd_comesRound) 103 = .ok (.ifCond .lt 6, 3) by decide +kernel) (by decide) (fun c => ?_) (fun c => ?_)
        · replace h := ite_t c h
          refine v_iconst (pc := 109) (v := 0) (show decode (tC tMd_comesRound) 109 = .ok (.iconst 0, 1) by decide +kernel) (by decide) ?_
          refine v_istore (pc := 110) [(4, .int 0), (0, .ref x0), (1, .int x1), (2, .int x2), (3, .int x3)] (show decode (tC tMd_comesRound) 110 = .ok (.istore 4, 2) by decide +kernel) (by decide) rfl ?_
          refine v_sub [(0, .ref x0), (1, .int x1), (2, .int x2), (3, .int x3), (4, .int 0)] [1, 2, 3, 4, 0] rfl ?_
          exact wMd_comesRound_112 hR hl (fun y0 y1 y2 y3 T h => ih y0 y1 y2 y3 T h) fuel x0 x1 x2 x3 0 S h
        · replace h := ite_f c h
          refine v_goto (pc := 106) 160 (show decode (tC tMd_comesRound) 106 = .ok (.goto 54, 3) by decide +kernel) (by decide) ?_
          refine v_iinc (pc := 160) (j := 3) [(3, .int (x3 + 1)), (0, .ref x0), (1, .int x1), (2, .int x2)] (show decode (tC tMd_comesRound) 160 = .ok (.iinc 3 1, 3) by decide +kernel) rfl rfl (by decide) rfl ?_
          refine v_goto (pc := 163) 78 (show decode (tC tMd_comesRound) 163 = .ok (.goto (-85), 3) by decide +kernel) (by decide) ?_
          refine v_sub [(0, .ref x0), (1, .int x1), (2, .int x2), (3, .int (x3 + 1))] [1, 2, 3, 0] rfl ?_
          exact ih x0 x1 x2 (x3 + 1) S h
def fMd_comesRound_70  : Nat → Nat → Int32 → Int32 → Sx → Option (Int32 × Sx)
  | 0, _, _, _, _ => none
  | n + 1, x0, x1, x2, S =>
    if x2 = 0 then
    ((gX S 12 72 x0).bind fun v1 =>
    (aZ S v1 x1).bind fun v3 =>
    zb v3 (some (v3, S)))
    else
    (fMd_comesRound_78 (fun y0 y1 y2 T => fMd_comesRound_70 n y0 y1 y2 T) fuel x0 x1 0 0 S)
set_option maxRecDepth 100000 in
set_option maxHeartbeats 4000000 in
theorem wMd_comesRound_70 {Γ : vG} (hR : gR Γ = rMd_comesRound) (hl : (gl Γ).flags = pinnedFlags ++ [noTraceFlag]) {X : Int32 × Sx}  : ∀ (n : Nat) (x0 : Nat) (x1 : Int32) (x2 : Int32) (S : Sx), fMd_comesRound_70  n x0 x1 x2 S = some X → vV Γ tMd_comesRound (mQ Γ 0 0 0 (some (.int X.1)) X.2) S 0 0 70 [(0, .ref x0), (1, .int x1), (2, .int x2)] [] := by
  intro n
  induction n with
  | zero => intro x0 x1 x2 S h; rw [fMd_comesRound_70] at h; cases h
  | succ n ih =>
    intro x0 x1 x2 S h
    rw [fMd_comesRound_70] at h
    refine v_iload_n (pc := 70) (show decode (tC tMd_comesRound) 70 = .ok (.iload_n 2, 1) by decide +kernel) 2 rfl rfl ?_
    refine v_if_eq (pc := 71) 169 (show decode (tC tMd_comesRound) 71 = .ok (.ifCond .eq 98, 3) by decide +kernel) (by decide) (fun c => ?_) (fun c => ?_)
    · replace h := ite_t c h
      refine v_aload_n (pc := 169) (show decode (tC tMd_comesRound) 169 = .ok (.aload_n 0, 1) by decide +kernel) 0 rfl rfl ?_
      obtain ⟨v1, e2, h⟩ := ob h
      refine v_getX (pc := 170) oF_Md_170 e2 (show decode (tC tMd_comesRound) 170 = .ok (.getfield 170, 3) by decide +kernel) ?_
      refine v_iload_n (pc := 173) (show decode (tC tMd_comesRound) 173 = .ok (.iload_n 1, 1) by decide +kernel) 1 rfl rfl ?_
      obtain ⟨v3, e4, h⟩ := ob h
      refine v_zald (pc := 174) e4 (show decode (tC tMd_comesRound) 174 = .ok (.baload, 1) by decide +kernel) ?_
      obtain ⟨e5, h⟩ := zb_of h
      obtain rfl := Option.some.inj h
      refine v_wide (ce2 := 0) (sl2 := 0) (by decide) (by decide) ?_
      exact v_zret (pc := 175) rfl e5 (show decode (tC tMd_comesRound) 175 = .ok (.ireturn, 1) by decide +kernel)
    · replace h := ite_f c h
      refine v_iconst (pc := 74) (v := 0) (show decode (tC tMd_comesRound) 74 = .ok (.iconst 0, 1) by decide +kernel) (by decide) ?_
      refine v_istore_n (pc := 75) [(2, .int 0), (0, .ref x0), (1, .int x1)] (show decode (tC tMd_comesRound) 75 = .ok (.istore_n 2, 1) by decide +kernel) rfl (by decide) rfl ?_
      refine v_iconst (pc := 76) (v := 0) (show decode (tC tMd_comesRound) 76 = .ok (.iconst 0, 1) by decide +kernel) (by decide) ?_
      refine v_istore_n (pc := 77) [(3, .int 0), (2, .int 0), (0, .ref x0), (1, .int x1)] (show decode (tC tMd_comesRound) 77 = .ok (.istore_n 3, 1) by decide +kernel) rfl (by decide) rfl ?_
      refine v_sub [(0, .ref x0), (1, .int x1), (2, .int 0), (3, .int 0)] [2, 3, 1, 0] rfl ?_
      exact wMd_comesRound_78 hR hl (fun y0 y1 y2 T h => ih y0 y1 y2 T h) fuel x0 x1 0 0 S h
def fMd_comesRound_40  : Nat → Nat → Int32 → Int32 → Int32 → Sx → Option (Int32 × Sx)
  | 0, _, _, _, _, _ => none
  | n + 1, x0, x1, x2, x3, S =>
    (gI S 12 2 x0).bind fun v1 =>
    if v1 ≤ x3 then
    (fMd_comesRound_70  fuel x0 x1 x2 S)
    else
    (if x2 = 0 then
    (fMd_comesRound_70  fuel x0 x1 x2 S)
    else
    ((gX S 12 72 x0).bind fun v3 =>
    (ckd S x0 12).bind fun _ =>
    bd2 (fMd_leads x0 x1 x3 S) fun r7 S8 =>
    (qZ S8 v3 x3 r7).bind fun S9 =>
    fMd_comesRound_40 n x0 x1 x2 (x3 + 1) S9))
set_option maxRecDepth 100000 in
set_option maxHeartbeats 4000000 in
theorem wMd_comesRound_40 {Γ : vG} (hR : gR Γ = rMd_comesRound) (hl : (gl Γ).flags = pinnedFlags ++ [noTraceFlag]) {X : Int32 × Sx}  : ∀ (n : Nat) (x0 : Nat) (x1 : Int32) (x2 : Int32) (x3 : Int32) (S : Sx), fMd_comesRound_40  n x0 x1 x2 x3 S = some X → vV Γ tMd_comesRound (mQ Γ 0 0 0 (some (.int X.1)) X.2) S 0 0 40 [(0, .ref x0), (1, .int x1), (2, .int x2), (3, .int x3)] [] := by
  intro n
  induction n with
  | zero => intro x0 x1 x2 x3 S h; rw [fMd_comesRound_40] at h; cases h
  | succ n ih =>
    intro x0 x1 x2 x3 S h
    rw [fMd_comesRound_40] at h
    refine v_iload_n (pc := 40) (show decode (tC tMd_comesRound) 40 = .ok (.iload_n 3, 1) by decide +kernel) 3 rfl rfl ?_
    refine v_aload_n (pc := 41) (show decode (tC tMd_comesRound) 41 = .ok (.aload_n 0, 1) by decide +kernel) 0 rfl rfl ?_
    obtain ⟨v1, e2, h⟩ := ob h
    refine v_getI (pc := 42) oF_Md_189 (by decide) e2 (show decode (tC tMd_comesRound) 42 = .ok (.getfield 189, 3) by decide +kernel) ?_
    refine v_icmp_ge (pc := 45) 70 (show decode (tC tMd_comesRound) 45 = .ok (.if_icmp .ge 25, 3) by decide +kernel) (by decide) (fun c => ?_) (fun c => ?_)
    · replace h := ite_t c h
      refine v_sub [(0, .ref x0), (1, .int x1), (2, .int x2)] [0, 1, 2] rfl ?_
      exact wMd_comesRound_70 hR hl  fuel x0 x1 x2 S h
    · replace h := ite_f c h
      refine v_iload_n (pc := 48) (show decode (tC tMd_comesRound) 48 = .ok (.iload_n 2, 1) by decide +kernel) 2 rfl rfl ?_
      refine v_if_eq (pc := 49) 70 (show decode (tC tMd_comesRound) 49 = .ok (.ifCond .eq 21, 3) by decide +kernel) (by decide) (fun c => ?_) (fun c => ?_)
      · replace h := ite_t c h
        refine v_sub [(0, .ref x0), (1, .int x1), (2, .int x2)] [0, 1, 2] rfl ?_
        exact wMd_comesRound_70 hR hl  fuel x0 x1 x2 S h
      · replace h := ite_f c h
        refine v_aload_n (pc := 52) (show decode (tC tMd_comesRound) 52 = .ok (.aload_n 0, 1) by decide +kernel) 0 rfl rfl ?_
        obtain ⟨v3, e4, h⟩ := ob h
        refine v_getX (pc := 53) oF_Md_170 e4 (show decode (tC tMd_comesRound) 53 = .ok (.getfield 170, 3) by decide +kernel) ?_
        refine v_iload_n (pc := 56) (show decode (tC tMd_comesRound) 56 = .ok (.iload_n 3, 1) by decide +kernel) 3 rfl rfl ?_
        refine v_aload_n (pc := 57) (show decode (tC tMd_comesRound) 57 = .ok (.aload_n 0, 1) by decide +kernel) 0 rfl rfl ?_
        refine v_iload_n (pc := 58) (show decode (tC tMd_comesRound) 58 = .ok (.iload_n 1, 1) by decide +kernel) 1 rfl rfl ?_
        refine v_iload_n (pc := 59) (show decode (tC tMd_comesRound) 59 = .ok (.iload_n 3, 1) by decide +kernel) 3 rfl rfl ?_
        obtain ⟨_, e6, h⟩ := ob h
        obtain ⟨r7, S8, e5, h⟩ := ob2 h
        refine v_call (pc := 60) (v := (some (.int r7))) (y := yMd_leads) (θ' := tMd_leads) (rm := rMd_leads) (av := [.ref x0, .int x1, .int x3]) (st := [.int x3, .ref v3]) (cMd_leads (l := gl Γ) hl e5) kMd_leads iMd_leads (iv_virt (y := yMd_leads) (θ' := tMd_leads) (kd := 12) (As := [.int x1, .int x3]) rfl (ckd_of e6) kMd_leads (gT_in 1488 (by decide +kernel) rfl) nMd_leads lMd_leads mMd_leads rfl (show decode (tC tMd_comesRound) 60 = .ok (.invokevirtual 251, 3) by decide +kernel)) ⟨by rw [hR]; decide, by rw [hR]; decide, by rw [hR]; decide, by rw [hR]; decide⟩ (Nat.le_of_ble_eq_true rfl) ?_
        obtain ⟨S9, e10, h⟩ := ob h
        refine v_zast (pc := 63) e10 (show decode (tC tMd_comesRound) 63 = .ok (.bastore, 1) by decide +kernel) ?_
        refine v_iinc (pc := 64) (j := 3) [(3, .int (x3 + 1)), (0, .ref x0), (1, .int x1), (2, .int x2)] (show decode (tC tMd_comesRound) 64 = .ok (.iinc 3 1, 3) by decide +kernel) rfl rfl (by decide) rfl ?_
        refine v_goto (pc := 67) 40 (show decode (tC tMd_comesRound) 67 = .ok (.goto (-27), 3) by decide +kernel) (by decide) ?_
        refine v_sub [(0, .ref x0), (1, .int x1), (2, .int x2), (3, .int (x3 + 1))] [1, 2, 3, 0] rfl ?_
        exact ih x0 x1 x2 (x3 + 1) S9 h
def fMd_comesRound_2  : Nat → Nat → Int32 → Int32 → Sx → Option (Int32 × Sx)
  | 0, _, _, _, _ => none
  | n + 1, x0, x1, x2, S =>
    if (8 : Int32) ≤ x2 then
    ((gX S 12 9 x0).bind fun v1 =>
    (aI S v1 (4 * x1)).bind fun v3 =>
    if (0 : Int32) ≤ v3 then
    (fMd_comesRound_40  fuel x0 x1 0 0 S)
    else
    (fMd_comesRound_40  fuel x0 x1 1 0 S))
    else
    ((gX S 12 72 x0).bind fun v5 =>
    (qZ S v5 x2 0).bind fun S7 =>
    fMd_comesRound_2 n x0 x1 (x2 + 1) S7)
set_option maxRecDepth 100000 in
set_option maxHeartbeats 4000000 in
theorem wMd_comesRound_2 {Γ : vG} (hR : gR Γ = rMd_comesRound) (hl : (gl Γ).flags = pinnedFlags ++ [noTraceFlag]) {X : Int32 × Sx}  : ∀ (n : Nat) (x0 : Nat) (x1 : Int32) (x2 : Int32) (S : Sx), fMd_comesRound_2  n x0 x1 x2 S = some X → vV Γ tMd_comesRound (mQ Γ 0 0 0 (some (.int X.1)) X.2) S 0 0 2 [(0, .ref x0), (1, .int x1), (2, .int x2)] [] := by
  intro n
  induction n with
  | zero => intro x0 x1 x2 S h; rw [fMd_comesRound_2] at h; cases h
  | succ n ih =>
    intro x0 x1 x2 S h
    rw [fMd_comesRound_2] at h
    refine v_iload_n (pc := 2) (show decode (tC tMd_comesRound) 2 = .ok (.iload_n 2, 1) by decide +kernel) 2 rfl rfl ?_
    refine v_bipush (pc := 3) (v := 8) (show decode (tC tMd_comesRound) 3 = .ok (.bipush 8, 2) by decide +kernel) (by decide) ?_
    refine v_icmp_ge (pc := 5) 21 (show decode (tC tMd_comesRound) 5 = .ok (.if_icmp .ge 16, 3) by decide +kernel) (by decide) (fun c => ?_) (fun c => ?_)
    · replace h := ite_t c h
      refine v_aload_n (pc := 21) (show decode (tC tMd_comesRound) 21 = .ok (.aload_n 0, 1) by decide +kernel) 0 rfl rfl ?_
      obtain ⟨v1, e2, h⟩ := ob h
      refine v_getX (pc := 22) oF_Md_13 e2 (show decode (tC tMd_comesRound) 22 = .ok (.getfield 13, 3) by decide +kernel) ?_
      refine v_iconst (pc := 25) (v := 4) (show decode (tC tMd_comesRound) 25 = .ok (.iconst 4, 1) by decide +kernel) (by decide) ?_
      refine v_iload_n (pc := 26) (show decode (tC tMd_comesRound) 26 = .ok (.iload_n 1, 1) by decide +kernel) 1 rfl rfl ?_
      refine v_imul (pc := 27) (show decode (tC tMd_comesRound) 27 = .ok (.imul, 1) by decide +kernel) ?_
      obtain ⟨v3, e4, h⟩ := ob h
      refine v_iald (pc := 28) e4 (show decode (tC tMd_comesRound) 28 = .ok (.iaload, 1) by decide +kernel) ?_
      refine v_if_ge (pc := 29) 36 (show decode (tC tMd_comesRound) 29 = .ok (.ifCond .ge 7, 3) by decide +kernel) (by decide) (fun c => ?_) (fun c => ?_)
      · replace h := ite_t c h
        refine v_iconst (pc := 36) (v := 0) (show decode (tC tMd_comesRound) 36 = .ok (.iconst 0, 1) by decide +kernel) (by decide) ?_
        refine v_istore_n (pc := 37) [(2, .int 0), (0, .ref x0), (1, .int x1)] (show decode (tC tMd_comesRound) 37 = .ok (.istore_n 2, 1) by decide +kernel) rfl (by decide) rfl ?_
        refine v_iconst (pc := 38) (v := 0) (show decode (tC tMd_comesRound) 38 = .ok (.iconst 0, 1) by decide +kernel) (by decide) ?_
        refine v_istore_n (pc := 39) [(3, .int 0), (2, .int 0), (0, .ref x0), (1, .int x1)] (show decode (tC tMd_comesRound) 39 = .ok (.istore_n 3, 1) by decide +kernel) rfl (by decide) rfl ?_
        refine v_sub [(0, .ref x0), (1, .int x1), (2, .int 0), (3, .int 0)] [2, 3, 1, 0] rfl ?_
        exact wMd_comesRound_40 hR hl  fuel x0 x1 0 0 S h
      · replace h := ite_f c h
        refine v_iconst (pc := 32) (v := 1) (show decode (tC tMd_comesRound) 32 = .ok (.iconst 1, 1) by decide +kernel) (by decide) ?_
        refine v_goto (pc := 33) 37 (show decode (tC tMd_comesRound) 33 = .ok (.goto 4, 3) by decide +kernel) (by decide) ?_
        refine v_istore_n (pc := 37) [(2, .int 1), (0, .ref x0), (1, .int x1)] (show decode (tC tMd_comesRound) 37 = .ok (.istore_n 2, 1) by decide +kernel) rfl (by decide) rfl ?_
        refine v_iconst (pc := 38) (v := 0) (show decode (tC tMd_comesRound) 38 = .ok (.iconst 0, 1) by decide +kernel) (by decide) ?_
        refine v_istore_n (pc := 39) [(3, .int 0), (2, .int 1), (0, .ref x0), (1, .int x1)] (show decode (tC tMd_comesRound) 39 = .ok (.istore_n 3, 1) by decide +kernel) rfl (by decide) rfl ?_
        refine v_sub [(0, .ref x0), (1, .int x1), (2, .int 1), (3, .int 0)] [2, 3, 1, 0] rfl ?_
        exact wMd_comesRound_40 hR hl  fuel x0 x1 1 0 S h
    · replace h := ite_f c h
      refine v_aload_n (pc := 8) (show decode (tC tMd_comesRound) 8 = .ok (.aload_n 0, 1) by decide +kernel) 0 rfl rfl ?_
      obtain ⟨v5, e6, h⟩ := ob h
      refine v_getX (pc := 9) oF_Md_170 e6 (show decode (tC tMd_comesRound) 9 = .ok (.getfield 170, 3) by decide +kernel) ?_
      refine v_iload_n (pc := 12) (show decode (tC tMd_comesRound) 12 = .ok (.iload_n 2, 1) by decide +kernel) 2 rfl rfl ?_
      refine v_iconst (pc := 13) (v := 0) (show decode (tC tMd_comesRound) 13 = .ok (.iconst 0, 1) by decide +kernel) (by decide) ?_
      obtain ⟨S7, e8, h⟩ := ob h
      refine v_zast (pc := 14) e8 (show decode (tC tMd_comesRound) 14 = .ok (.bastore, 1) by decide +kernel) ?_
      refine v_iinc (pc := 15) (j := 2) [(2, .int (x2 + 1)), (0, .ref x0), (1, .int x1)] (show decode (tC tMd_comesRound) 15 = .ok (.iinc 2 1, 3) by decide +kernel) rfl rfl (by decide) rfl ?_
      refine v_goto (pc := 18) 2 (show decode (tC tMd_comesRound) 18 = .ok (.goto (-16), 3) by decide +kernel) (by decide) ?_
      refine v_sub [(0, .ref x0), (1, .int x1), (2, .int (x2 + 1))] [1, 2, 0] rfl ?_
      exact ih x0 x1 (x2 + 1) S7 h
def fMd_comesRound (x0 : Nat) (x1 : Int32) (S : Sx) : Option (Int32 × Sx) :=
    fMd_comesRound_2  fuel x0 x1 0 S
set_option maxRecDepth 100000 in
set_option maxHeartbeats 4000000 in
theorem wMd_comesRound {Γ : vG} (hR : gR Γ = rMd_comesRound) (hl : (gl Γ).flags = pinnedFlags ++ [noTraceFlag]) (x0 : Nat) (x1 : Int32) (S : Sx) {X : Int32 × Sx} (h : fMd_comesRound x0 x1 S = some X) : vV Γ tMd_comesRound (mQ Γ 0 0 0 (some (.int X.1)) X.2) S 0 0 0 [(0, .ref x0), (1, .int x1)] [] := by
  unfold fMd_comesRound at h
  refine v_iconst (pc := 0) (v := 0) (show decode (tC tMd_comesRound) 0 = .ok (.iconst 0, 1) by decide +kernel) (by decide) ?_
  refine v_istore_n (pc := 1) [(2, .int 0), (0, .ref x0), (1, .int x1)] (show decode (tC tMd_comesRound) 1 = .ok (.istore_n 2, 1) by decide +kernel) rfl (by decide) rfl ?_
  refine v_sub [(0, .ref x0), (1, .int x1), (2, .int 0)] [1, 2, 0] rfl ?_
  exact wMd_comesRound_2 hR hl  fuel x0 x1 0 S h
theorem cMd_comesRound {l : Launch} (hl : l.flags = pinnedFlags ++ [noTraceFlag]) {D : va_G} {dA : Nat → ClassId} {B : Nat} {x0 : Nat} {x1 : Int32} {S : Sx} {X : Int32 × Sx} (h : fMd_comesRound x0 x1 S = some X) : Mx l yMd_comesRound tMd_comesRound rMd_comesRound 0 0 D dA B S [.ref x0, .int x1] 0 (some (.int X.1)) X.2 :=
  mx_of hl (by decide) rfl rfl (Nat.le_of_ble_eq_true rfl) (fun Γ e1 e2 e3 e4 e5 => by subst e1; subst e3; subst e4; subst e5; exact wMd_comesRound e2 hl x0 x1 S h)
/-! MatchPipeModel.uses(II)Z -/
def yMd_uses : MethodName := ⟨"MatchPipeModel", "uses", "(II)Z"⟩
def tMd_uses : tM := (prog_14_method_17_code, "MatchPipeModel", 6, "uses", some .boolean, [])
def rMd_uses : Room := { frames := 0, cells := 0, slots := 0, locals := 0 }
theorem kMd_uses : cOf yMd_uses tMd_uses ∈ gT := gT_in 1495 (by decide +kernel) rfl
theorem iMd_uses : Cond.initialized yMd_uses.cls ∈ gT := gT_in 68 (by decide +kernel) rfl
theorem mMd_uses : okM yMd_uses 2 := ⟨by decide, by decide, by unfold nPar; decide +kernel⟩
theorem nMd_uses : Cond.instanceMethod yMd_uses ∈ gT := gT_in 1494 (by decide +kernel) rfl
theorem lMd_uses : Cond.selects "MatchPipeModel" yMd_uses yMd_uses ∈ gT := gT_in 29 (by decide +kernel) rfl
def fMd_uses_79 (k20 : Nat → Int32 → Int32 → Int32 → Int32 → Int32 → Sx → Option (Int32 × Sx)) (x0 : Nat) (x1 : Int32) (x2 : Int32) (x4 : Int32) (x5 : Int32) (S : Sx) : Option (Int32 × Sx) :=
    (gX S 12 17 x0).bind fun v1 =>
    (aI S v1 x5).bind fun v3 =>
    if v3 = 8 then
    ((gX S 12 20 x0).bind fun v5 =>
    (aI S v5 x5).bind fun v7 =>
    if v7 = x2 then
    (k20 x0 x1 x2 1 x4 (x5 + 1) S)
    else
    (k20 x0 x1 x2 0 x4 (x5 + 1) S))
    else
    (k20 x0 x1 x2 0 x4 (x5 + 1) S)
set_option maxRecDepth 100000 in
set_option maxHeartbeats 4000000 in
theorem wMd_uses_79 {Γ : vG} (hR : gR Γ = rMd_uses) (hl : (gl Γ).flags = pinnedFlags ++ [noTraceFlag]) {X : Int32 × Sx} {k20 : Nat → Int32 → Int32 → Int32 → Int32 → Int32 → Sx → Option (Int32 × Sx)} (hk20 : ∀ (x0 : Nat) (x1 : Int32) (x2 : Int32) (x3 : Int32) (x4 : Int32) (x5 : Int32) (S : Sx), k20 x0 x1 x2 x3 x4 x5 S = some X → vV Γ tMd_uses (mQ Γ 0 0 0 (some (.int X.1)) X.2) S 0 0 20 [(0, .ref x0), (1, .int x1), (2, .int x2), (3, .int x3), (4, .int x4), (5, .int x5)] []) : ∀ (x0 : Nat) (x1 : Int32) (x2 : Int32) (x4 : Int32) (x5 : Int32) (S : Sx), fMd_uses_79 k20 x0 x1 x2 x4 x5 S = some X → vV Γ tMd_uses (mQ Γ 0 0 0 (some (.int X.1)) X.2) S 0 0 79 [(0, .ref x0), (1, .int x1), (2, .int x2), (4, .int x4), (5, .int x5)] [] := by
  intro x0 x1 x2 x4 x5 S h
  unfold fMd_uses_79 at h
  refine v_aload_n (pc := 79) (show decode (tC tMd_uses) 79 = .ok (.aload_n 0, 1) by decide +kernel) 0 rfl rfl ?_
  obtain ⟨v1, e2, h⟩ := ob h
  refine v_getX (pc := 80) oF_Md_37 e2 (show decode (tC tMd_uses) 80 = .ok (.getfield 37, 3) by decide +kernel) ?_
  refine v_iload (pc := 83) (show decode (tC tMd_uses) 83 = .ok (.iload 5, 2) by decide +kernel) 4 rfl ?_
  obtain ⟨v3, e4, h⟩ := ob h
  refine v_iald (pc := 85) e4 (show decode (tC tMd_uses) 85 = .ok (.iaload, 1) by decide +kernel) ?_
  refine v_bipush (pc := 86) (v := 8) (show decode (tC tMd_uses) 86 = .ok (.bipush 8, 2) by decide +kernel) (by decide) ?_
  refine v_icmp_ne (pc := 88) 106 (show decode (tC tMd_uses) 88 = .ok (.if_icmp .ne 18, 3) by decide +kernel) (by decide) (fun c => ?_) (fun c => ?_)
  · replace h := ite_f c h
    refine v_iconst (pc := 106) (v := 0) (show decode (tC tMd_uses) 106 = .ok (.iconst 0, 1) by decide +kernel) (by decide) ?_
    refine v_istore_n (pc := 107) [(3, .int 0), (0, .ref x0), (1, .int x1), (2, .int x2), (4, .int x4), (5, .int x5)] (show decode (tC tMd_uses) 107 = .ok (.istore_n 3, 1) by decide +kernel) rfl (by decide) rfl ?_
    refine v_iinc (pc := 108) (j := 5) [(5, .int (x5 + 1)), (3, .int 0), (0, .ref x0), (1, .int x1), (2, .int x2), (4, .int x4)] (show decode (tC tMd_uses) 108 = .ok (.iinc 5 1, 3) by decide +kernel) rfl rfl (by decide) rfl ?_
    refine v_goto (pc := 111) 20 (show decode (tC tMd_uses) 111 = .ok (.goto (-91), 3) by decide +kernel) (by decide) ?_
    refine v_sub [(0, .ref x0), (1, .int x1), (2, .int x2), (3, .int 0), (4, .int x4), (5, .int (x5 + 1))] [2, 3, 4, 1, 5, 0] rfl ?_
    exact hk20 x0 x1 x2 0 x4 (x5 + 1) S h
  · replace h := ite_t c h
    refine v_aload_n (pc := 91) (show decode (tC tMd_uses) 91 = .ok (.aload_n 0, 1) by decide +kernel) 0 rfl rfl ?_
    obtain ⟨v5, e6, h⟩ := ob h
    refine v_getX (pc := 92) oF_Md_46 e6 (show decode (tC tMd_uses) 92 = .ok (.getfield 46, 3) by decide +kernel) ?_
    refine v_iload (pc := 95) (show decode (tC tMd_uses) 95 = .ok (.iload 5, 2) by decide +kernel) 4 rfl ?_
    obtain ⟨v7, e8, h⟩ := ob h
    refine v_iald (pc := 97) e8 (show decode (tC tMd_uses) 97 = .ok (.iaload, 1) by decide +kernel) ?_
    refine v_iload_n (pc := 98) (show decode (tC tMd_uses) 98 = .ok (.iload_n 2, 1) by decide +kernel) 2 rfl rfl ?_
    refine v_icmp_ne (pc := 99) 106 (show decode (tC tMd_uses) 99 = .ok (.if_icmp .ne 7, 3) by decide +kernel) (by decide) (fun c => ?_) (fun c => ?_)
    · replace h := ite_f c h
      refine v_iconst (pc := 106) (v := 0) (show decode (tC tMd_uses) 106 = .ok (.iconst 0, 1) by decide +kernel) (by decide) ?_
      refine v_istore_n (pc := 107) [(3, .int 0), (0, .ref x0), (1, .int x1), (2, .int x2), (4, .int x4), (5, .int x5)] (show decode (tC tMd_uses) 107 = .ok (.istore_n 3, 1) by decide +kernel) rfl (by decide) rfl ?_
      refine v_iinc (pc := 108) (j := 5) [(5, .int (x5 + 1)), (3, .int 0), (0, .ref x0), (1, .int x1), (2, .int x2), (4, .int x4)] (show decode (tC tMd_uses) 108 = .ok (.iinc 5 1, 3) by decide +kernel) rfl rfl (by decide) rfl ?_
      refine v_goto (pc := 111) 20 (show decode (tC tMd_uses) 111 = .ok (.goto (-91), 3) by decide +kernel) (by decide) ?_
      refine v_sub [(0, .ref x0), (1, .int x1), (2, .int x2), (3, .int 0), (4, .int x4), (5, .int (x5 + 1))] [2, 3, 4, 1, 5, 0] rfl ?_
      exact hk20 x0 x1 x2 0 x4 (x5 + 1) S h
    · replace h := ite_t c h
      refine v_iconst (pc := 102) (v := 1) (show decode (tC tMd_uses) 102 = .ok (.iconst 1, 1) by decide +kernel) (by decide) ?_
      refine v_goto (pc := 103) 107 (show decode (tC tMd_uses) 103 = .ok (.goto 4, 3) by decide +kernel) (by decide) ?_
      refine v_istore_n (pc := 107) [(3, .int 1), (0, .ref x0), (1, .int x1), (2, .int x2), (4, .int x4), (5, .int x5)] (show decode (tC tMd_uses) 107 = .ok (.istore_n 3, 1) by decide +kernel) rfl (by decide) rfl ?_
      refine v_iinc (pc := 108) (j := 5) [(5, .int (x5 + 1)), (3, .int 1), (0, .ref x0), (1, .int x1), (2, .int x2), (4, .int x4)] (show decode (tC tMd_uses) 108 = .ok (.iinc 5 1, 3) by decide +kernel) rfl rfl (by decide) rfl ?_
      refine v_goto (pc := 111) 20 (show decode (tC tMd_uses) 111 = .ok (.goto (-91), 3) by decide +kernel) (by decide) ?_
      refine v_sub [(0, .ref x0), (1, .int x1), (2, .int x2), (3, .int 1), (4, .int x4), (5, .int (x5 + 1))] [2, 3, 4, 1, 5, 0] rfl ?_
      exact hk20 x0 x1 x2 1 x4 (x5 + 1) S h
def fMd_uses_20 (k5 : Nat → Int32 → Int32 → Int32 → Int32 → Sx → Option (Int32 × Sx)) : Nat → Nat → Int32 → Int32 → Int32 → Int32 → Int32 → Sx → Option (Int32 × Sx)
  | 0, _, _, _, _, _, _, _ => none
  | n + 1, x0, x1, x2, x3, x4, x5, S =>
    (gX S 12 16 x0).bind fun v1 =>
    (aI S v1 x4).bind fun v3 =>
    if ((4 * x4) + v3) ≤ x5 then
    (k5 x0 x1 x2 x3 (x4 + 1) S)
    else
    (if x3 = 0 then
    ((gX S 12 25 x0).bind fun v5 =>
    (aI S v5 x1).bind fun v7 =>
    if ((v7 >>> (x4 &&& 31)) &&& 1) = 1 then
    ((gX S 12 17 x0).bind fun v9 =>
    (aI S v9 x5).bind fun v11 =>
    if v11 = 7 then
    ((gX S 12 18 x0).bind fun v13 =>
    (aI S v13 x5).bind fun v15 =>
    if v15 = x2 then
    (fMd_uses_20 k5 n x0 x1 x2 1 x4 (x5 + 1) S)
    else
    (fMd_uses_79 (fun y0 y1 y2 y3 y4 y5 T => fMd_uses_20 k5 n y0 y1 y2 y3 y4 y5 T) x0 x1 x2 x4 x5 S))
    else
    (fMd_uses_79 (fun y0 y1 y2 y3 y4 y5 T => fMd_uses_20 k5 n y0 y1 y2 y3 y4 y5 T) x0 x1 x2 x4 x5 S))
    else
    (fMd_uses_20 k5 n x0 x1 x2 0 x4 (x5 + 1) S))
    else
    (fMd_uses_20 k5 n x0 x1 x2 1 x4 (x5 + 1) S))
set_option maxRecDepth 100000 in
set_option maxHeartbeats 4000000 in
theorem wMd_uses_20 {Γ : vG} (hR : gR Γ = rMd_uses) (hl : (gl Γ).flags = pinnedFlags ++ [noTraceFlag]) {X : Int32 × Sx} {k5 : Nat → Int32 → Int32 → Int32 → Int32 → Sx → Option (Int32 × Sx)} (hk5 : ∀ (x0 : Nat) (x1 : Int32) (x2 : Int32) (x3 : Int32) (x4 : Int32) (S : Sx), k5 x0 x1 x2 x3 x4 S = some X → vV Γ tMd_uses (mQ Γ 0 0 0 (some (.int X.1)) X.2) S 0 0 5 [(0, .ref x0), (1, .int x1), (2, .int x2), (3, .int x3), (4, .int x4)] []) : ∀ (n : Nat) (x0 : Nat) (x1 : Int32) (x2 : Int32) (x3 : Int32) (x4 : Int32) (x5 : Int32) (S : Sx), fMd_uses_20 k5 n x0 x1 x2 x3 x4 x5 S = some X → vV Γ tMd_uses (mQ Γ 0 0 0 (some (.int X.1)) X.2) S 0 0 20 [(0, .ref x0), (1, .int x1), (2, .int x2), (3, .int x3), (4, .int x4), (5, .int x5)] [] := by
  intro n
  induction n with
  | zero => intro x0 x1 x2 x3 x4 x5 S h; rw [fMd_uses_20] at h; cases h
  | succ n ih =>
    intro x0 x1 x2 x3 x4 x5 S h
    rw [fMd_uses_20] at h
    refine v_iload (pc := 20) (show decode (tC tMd_uses) 20 = .ok (.iload 5, 2) by decide +kernel) 5 rfl ?_
    refine v_iconst (pc := 22) (v := 4) (show decode (tC tMd_uses) 22 = .ok (.iconst 4, 1) by decide +kernel) (by decide) ?_
    refine v_iload (pc := 23) (show decode (tC tMd_uses) 23 = .ok (.iload 4, 2) by decide +kernel) 4 rfl ?_
    refine v_imul (pc := 25) (show decode (tC tMd_uses) 25 = .ok (.imul, 1) by decide +kernel) ?_
    refine v_aload_n (pc := 26) (show decode (tC tMd_uses) 26 = .ok (.aload_n 0, 1) by decide +kernel) 0 rfl rfl ?_
    obtain ⟨v1, e2, h⟩ := ob h
    refine v_getX (pc := 27) oF_Md_34 e2 (show decode (tC tMd_uses) 27 = .ok (.getfield 34, 3) by decide +kernel) ?_
    refine v_iload (pc := 30) (show decode (tC tMd_uses) 30 = .ok (.iload 4, 2) by decide +kernel) 4 rfl ?_
    obtain ⟨v3, e4, h⟩ := ob h
    refine v_iald (pc := 32) e4 (show decode (tC tMd_uses) 32 = .ok (.iaload, 1) by decide +kernel) ?_
    refine v_iadd (pc := 33) (show decode (tC tMd_uses) 33 = .ok (.iadd, 1) by decide +kernel) ?_
    refine v_icmp_ge (pc := 34) 114 (show decode (tC tMd_uses) 34 = .ok (.if_icmp .ge 80, 3) by decide +kernel) (by decide) (fun c => ?_) (fun c => ?_)
    · replace h := ite_t c h
      refine v_iinc (pc := 114) (j := 4) [(4, .int (x4 + 1)), (0, .ref x0), (1, .int x1), (2, .int x2), (3, .int x3), (5, .int x5)] (show decode (tC tMd_uses) 114 = .ok (.iinc 4 1, 3) by decide +kernel) rfl rfl (by decide) rfl ?_
      refine v_goto (pc := 117) 5 (show decode (tC tMd_uses) 117 = .ok (.goto (-112), 3) by decide +kernel) (by decide) ?_
      refine v_sub [(0, .ref x0), (1, .int x1), (2, .int x2), (3, .int x3), (4, .int (x4 + 1))] [1, 2, 3, 4, 0] rfl ?_
      exact hk5 x0 x1 x2 x3 (x4 + 1) S h
    · replace h := ite_f c h
      refine v_iload_n (pc := 37) (show decode (tC tMd_uses) 37 = .ok (.iload_n 3, 1) by decide +kernel) 3 rfl rfl ?_
      refine v_if_ne (pc := 38) 102 (show decode (tC tMd_uses) 38 = .ok (.ifCond .ne 64, 3) by decide +kernel) (by decide) (fun c => ?_) (fun c => ?_)
      · replace h := ite_f c h
        refine v_iconst (pc := 102) (v := 1) (show decode (tC tMd_uses) 102 = .ok (.iconst 1, 1) by decide +kernel) (by decide) ?_
        refine v_goto (pc := 103) 107 (show decode (tC tMd_uses) 103 = .ok (.goto 4, 3) by decide +kernel) (by decide) ?_
        refine v_istore_n (pc := 107) [(3, .int 1), (0, .ref x0), (1, .int x1), (2, .int x2), (4, .int x4), (5, .int x5)] (show decode (tC tMd_uses) 107 = .ok (.istore_n 3, 1) by decide +kernel) rfl (by decide) rfl ?_
        refine v_iinc (pc := 108) (j := 5) [(5, .int (x5 + 1)), (3, .int 1), (0, .ref x0), (1, .int x1), (2, .int x2), (4, .int x4)] (show decode (tC tMd_uses) 108 = .ok (.iinc 5 1, 3) by decide +kernel) rfl rfl (by decide) rfl ?_
        refine v_goto (pc := 111) 20 (show decode (tC tMd_uses) 111 = .ok (.goto (-91), 3) by decide +kernel) (by decide) ?_
        refine v_sub [(0, .ref x0), (1, .int x1), (2, .int x2), (3, .int 1), (4, .int x4), (5, .int (x5 + 1))] [2, 3, 4, 1, 5, 0] rfl ?_
        exact ih x0 x1 x2 1 x4 (x5 + 1) S h
      · replace h := ite_t c h
        refine v_aload_n (pc := 41) (show decode (tC tMd_uses) 41 = .ok (.aload_n 0, 1) by decide +kernel) 0 rfl rfl ?_
        obtain ⟨v5, e6, h⟩ := ob h
        refine v_getX (pc := 42) oF_Md_61 e6 (show decode (tC tMd_uses) 42 = .ok (.getfield 61, 3) by decide +kernel) ?_
        refine v_iload_n (pc := 45) (show decode (tC tMd_uses) 45 = .ok (.iload_n 1, 1) by decide +kernel) 1 rfl rfl ?_
        obtain ⟨v7, e8, h⟩ := ob h
        refine v_iald (pc := 46) e8 (show decode (tC tMd_uses) 46 = .ok (.iaload, 1) by decide +kernel) ?_
        refine v_iload (pc := 47) (show decode (tC tMd_uses) 47 = .ok (.iload 4, 2) by decide +kernel) 4 rfl ?_
        refine v_ishr (pc := 49) (show decode (tC tMd_uses) 49 = .ok (.ishr, 1) by decide +kernel) ?_
        refine v_iconst (pc := 50) (v := 1) (show decode (tC tMd_uses) 50 = .ok (.iconst 1, 1) by decide +kernel) (by decide) ?_
        refine v_iand (pc := 51) (show decode (tC tMd_uses) 51 = .ok (.iand, 1) by decide +kernel) ?_
        refine v_iconst (pc := 52) (v := 1) (show decode (tC tMd_uses) 52 = .ok (.iconst 1, 1) by decide +kernel) (by decide) ?_
        refine v_icmp_ne (pc := 53) 106 (show decode (tC tMd_uses) 53 = .ok (.if_icmp .ne 53, 3) by decide +kernel) (by decide) (fun c => ?_) (fun c => ?_)
        · replace h := ite_f c h
          refine v_iconst (pc := 106) (v := 0) (show decode (tC tMd_uses) 106 = .ok (.iconst 0, 1) by decide +kernel) (by decide) ?_
          refine v_istore_n (pc := 107) [(3, .int 0), (0, .ref x0), (1, .int x1), (2, .int x2), (4, .int x4), (5, .int x5)] (show decode (tC tMd_uses) 107 = .ok (.istore_n 3, 1) by decide +kernel) rfl (by decide) rfl ?_
          refine v_iinc (pc := 108) (j := 5) [(5, .int (x5 + 1)), (3, .int 0), (0, .ref x0), (1, .int x1), (2, .int x2), (4, .int x4)] (show decode (tC tMd_uses) 108 = .ok (.iinc 5 1, 3) by decide +kernel) rfl rfl (by decide) rfl ?_
          refine v_goto (pc := 111) 20 (show decode (tC tMd_uses) 111 = .ok (.goto (-91), 3) by decide +kernel) (by decide) ?_
          refine v_sub [(0, .ref x0), (1, .int x1), (2, .int x2), (3, .int 0), (4, .int x4), (5, .int (x5 + 1))] [2, 3, 4, 1, 5, 0] rfl ?_
          exact ih x0 x1 x2 0 x4 (x5 + 1) S h
        · replace h := ite_t c h
          refine v_aload_n (pc := 56) (show decode (tC tMd_uses) 56 = .ok (.aload_n 0, 1) by decide +kernel) 0 rfl rfl ?_
          obtain ⟨v9, e10, h⟩ := ob h
          refine v_getX (pc := 57) oF_Md_37 e10 (show decode (tC tMd_uses) 57 = .ok (.getfield 37, 3) by decide +kernel) ?_
          refine v_iload (pc := 60) (show decode (tC tMd_uses) 60 = .ok (.iload 5, 2) by decide +kernel) 5 rfl ?_
          obtain ⟨v11, e12, h⟩ := ob h
          refine v_iald (pc := 62) e12 (show decode (tC tMd_uses) 62 = .ok (.iaload, 1) by decide +kernel) ?_
          refine v_bipush (pc := 63) (v := 7) (show decode (tC tMd_uses) 63 = .ok (.bipush 7, 2) by decide +kernel) (by decide) ?_
          refine v_icmp_ne (pc := 65) 79 (show decode (tC tMd_uses) 65 = .ok (.if_icmp .ne 14, 3) by decide +kernel) (by decide) (fun c => ?_) (fun c => ?_)
          · replace h := ite_f c h
            refine v_sub [(0, .ref x0), (1, .int x1), (2, .int x2), (4, .int x4), (5, .int x5)] [0, 1, 2, 4, 5] rfl ?_
            exact wMd_uses_79 hR hl (fun y0 y1 y2 y3 y4 y5 T h => ih y0 y1 y2 y3 y4 y5 T h) x0 x1 x2 x4 x5 S h
          · replace h := ite_t c h
            refine v_aload_n (pc := 68) (show decode (tC tMd_uses) 68 = .ok (.aload_n 0, 1) by decide +kernel) 0 rfl rfl ?_
            obtain ⟨v13, e14, h⟩ := ob h
            refine v_getX (pc := 69) oF_Md_40 e14 (show decode (tC tMd_uses) 69 = .ok (.getfield 40, 3) by decide +kernel) ?_
            refine v_iload (pc := 72) (show decode (tC tMd_uses) 72 = .ok (.iload 5, 2) by decide +kernel) 5 rfl ?_
            obtain ⟨v15, e16, h⟩ := ob h
            refine v_iald (pc := 74) e16 (show decode (tC tMd_uses) 74 = .ok (.iaload, 1) by decide +kernel) ?_
            refine v_iload_n (pc := 75) (show decode (tC tMd_uses) 75 = .ok (.iload_n 2, 1) by decide +kernel) 2 rfl rfl ?_
            refine v_icmp_eq (pc := 76) 102 (show decode (tC tMd_uses) 76 = .ok (.if_icmp .eq 26, 3) by decide +kernel) (by decide) (fun c => ?_) (fun c => ?_)
            · replace h := ite_t c h
              refine v_iconst (pc := 102) (v := 1) (show decode (tC tMd_uses) 102 = .ok (.iconst 1, 1) by decide +kernel) (by decide) ?_
              refine v_goto (pc := 103) 107 (show decode (tC tMd_uses) 103 = .ok (.goto 4, 3) by decide +kernel) (by decide) ?_
              refine v_istore_n (pc := 107) [(3, .int 1), (0, .ref x0), (1, .int x1), (2, .int x2), (4, .int x4), (5, .int x5)] (show decode (tC tMd_uses) 107 = .ok (.istore_n 3, 1) by decide +kernel) rfl (by decide) rfl ?_
              refine v_iinc (pc := 108) (j := 5) [(5, .int (x5 + 1)), (3, .int 1), (0, .ref x0), (1, .int x1), (2, .int x2), (4, .int x4)] (show decode (tC tMd_uses) 108 = .ok (.iinc 5 1, 3) by decide +kernel) rfl rfl (by decide) rfl ?_
              refine v_goto (pc := 111) 20 (show decode (tC tMd_uses) 111 = .ok (.goto (-91), 3) by decide +kernel) (by decide) ?_
              refine v_sub [(0, .ref x0), (1, .int x1), (2, .int x2), (3, .int 1), (4, .int x4), (5, .int (x5 + 1))] [2, 3, 4, 1, 5, 0] rfl ?_
              exact ih x0 x1 x2 1 x4 (x5 + 1) S h
            · replace h := ite_f c h
              refine v_sub [(0, .ref x0), (1, .int x1), (2, .int x2), (4, .int x4), (5, .int x5)] [0, 1, 2, 4, 5] rfl ?_
              exact wMd_uses_79 hR hl (fun y0 y1 y2 y3 y4 y5 T h => ih y0 y1 y2 y3 y4 y5 T h) x0 x1 x2 x4 x5 S h
def fMd_uses_5  : Nat → Nat → Int32 → Int32 → Int32 → Int32 → Sx → Option (Int32 × Sx)
  | 0, _, _, _, _, _, _ => none
  | n + 1, x0, x1, x2, x3, x4, S =>
    (gI S 12 3 x0).bind fun v1 =>
    if v1 ≤ x4 then
    (zb x3 (some (x3, S)))
    else
    (fMd_uses_20 (fun y0 y1 y2 y3 y4 T => fMd_uses_5 n y0 y1 y2 y3 y4 T) fuel x0 x1 x2 x3 x4 (4 * x4) S)
set_option maxRecDepth 100000 in
set_option maxHeartbeats 4000000 in
theorem wMd_uses_5 {Γ : vG} (hR : gR Γ = rMd_uses) (hl : (gl Γ).flags = pinnedFlags ++ [noTraceFlag]) {X : Int32 × Sx}  : ∀ (n : Nat) (x0 : Nat) (x1 : Int32) (x2 : Int32) (x3 : Int32) (x4 : Int32) (S : Sx), fMd_uses_5  n x0 x1 x2 x3 x4 S = some X → vV Γ tMd_uses (mQ Γ 0 0 0 (some (.int X.1)) X.2) S 0 0 5 [(0, .ref x0), (1, .int x1), (2, .int x2), (3, .int x3), (4, .int x4)] [] := by
  intro n
  induction n with
  | zero => intro x0 x1 x2 x3 x4 S h; rw [fMd_uses_5] at h; cases h
  | succ n ih =>
    intro x0 x1 x2 x3 x4 S h
    rw [fMd_uses_5] at h
    refine v_iload (pc := 5) (show decode (tC tMd_uses) 5 = .ok (.iload 4, 2) by decide +kernel) 4 rfl ?_
    refine v_aload_n (pc := 7) (show decode (tC tMd_uses) 7 = .ok (.aload_n 0, 1) by decide +kernel) 0 rfl rfl ?_
    obtain ⟨v1, e2, h⟩ := ob h
    refine v_getI (pc := 8) oF_Md_192 (by decide) e2 (show decode (tC tMd_uses) 8 = .ok (.getfield 192, 3) by decide +kernel) ?_
    refine v_icmp_ge (pc := 11) 120 (show decode (tC tMd_uses) 11 = .ok (.if_icmp .ge 109, 3) by decide +kernel) (by decide) (fun c => ?_) (fun c => ?_)
    · replace h := ite_t c h
      refine v_iload_n (pc := 120) (show decode (tC tMd_uses) 120 = .ok (.iload_n 3, 1) by decide +kernel) 3 rfl rfl ?_
      obtain ⟨e3, h⟩ := zb_of h
      obtain rfl := Option.some.inj h
      refine v_wide (ce2 := 0) (sl2 := 0) (by decide) (by decide) ?_
      exact v_zret (pc := 121) rfl e3 (show decode (tC tMd_uses) 121 = .ok (.ireturn, 1) by decide +kernel)
    · replace h := ite_f c h
      refine v_iconst (pc := 14) (v := 4) (show decode (tC tMd_uses) 14 = .ok (.iconst 4, 1) by decide +kernel) (by decide) ?_
      refine v_iload (pc := 15) (show decode (tC tMd_uses) 15 = .ok (.iload 4, 2) by decide +kernel) 4 rfl ?_
      refine v_imul (pc := 17) (show decode (tC tMd_uses) 17 = .ok (.imul, 1) by decide +kernel) ?_
      refine v_istore (pc := 18) [(5, .int (4 * x4)), (0, .ref x0), (1, .int x1), (2, .int x2), (3, .int x3), (4, .int x4)] (show decode (tC tMd_uses) 18 = .ok (.istore 5, 2) by decide +kernel) (by decide) rfl ?_
      refine v_sub [(0, .ref x0), (1, .int x1), (2, .int x2), (3, .int x3), (4, .int x4), (5, .int (4 * x4))] [1, 2, 3, 4, 5, 0] rfl ?_
      exact wMd_uses_20 hR hl (fun y0 y1 y2 y3 y4 T h => ih y0 y1 y2 y3 y4 T h) fuel x0 x1 x2 x3 x4 (4 * x4) S h
def fMd_uses (x0 : Nat) (x1 : Int32) (x2 : Int32) (S : Sx) : Option (Int32 × Sx) :=
    fMd_uses_5  fuel x0 x1 x2 0 0 S
set_option maxRecDepth 100000 in
set_option maxHeartbeats 4000000 in
theorem wMd_uses {Γ : vG} (hR : gR Γ = rMd_uses) (hl : (gl Γ).flags = pinnedFlags ++ [noTraceFlag]) (x0 : Nat) (x1 : Int32) (x2 : Int32) (S : Sx) {X : Int32 × Sx} (h : fMd_uses x0 x1 x2 S = some X) : vV Γ tMd_uses (mQ Γ 0 0 0 (some (.int X.1)) X.2) S 0 0 0 [(0, .ref x0), (1, .int x1), (2, .int x2)] [] := by
  unfold fMd_uses at h
  refine v_iconst (pc := 0) (v := 0) (show decode (tC tMd_uses) 0 = .ok (.iconst 0, 1) by decide +kernel) (by decide) ?_
  refine v_istore_n (pc := 1) [(3, .int 0), (0, .ref x0), (1, .int x1), (2, .int x2)] (show decode (tC tMd_uses) 1 = .ok (.istore_n 3, 1) by decide +kernel) rfl (by decide) rfl ?_
  refine v_iconst (pc := 2) (v := 0) (show decode (tC tMd_uses) 2 = .ok (.iconst 0, 1) by decide +kernel) (by decide) ?_
  refine v_istore (pc := 3) [(4, .int 0), (3, .int 0), (0, .ref x0), (1, .int x1), (2, .int x2)] (show decode (tC tMd_uses) 3 = .ok (.istore 4, 2) by decide +kernel) (by decide) rfl ?_
  refine v_sub [(0, .ref x0), (1, .int x1), (2, .int x2), (3, .int 0), (4, .int 0)] [2, 3, 4, 1, 0] rfl ?_
  exact wMd_uses_5 hR hl  fuel x0 x1 x2 0 0 S h
theorem cMd_uses {l : Launch} (hl : l.flags = pinnedFlags ++ [noTraceFlag]) {D : va_G} {dA : Nat → ClassId} {B : Nat} {x0 : Nat} {x1 : Int32} {x2 : Int32} {S : Sx} {X : Int32 × Sx} (h : fMd_uses x0 x1 x2 S = some X) : Mx l yMd_uses tMd_uses rMd_uses 0 0 D dA B S [.ref x0, .int x1, .int x2] 0 (some (.int X.1)) X.2 :=
  mx_of hl (by decide) rfl rfl (Nat.le_of_ble_eq_true rfl) (fun Γ e1 e2 e3 e4 e5 => by subst e1; subst e3; subst e4; subst e5; exact wMd_uses e2 hl x0 x1 x2 S h)
/-! MatchPipeModel.wrong(II)V -/
def yMd_wrong : MethodName := ⟨"MatchPipeModel", "wrong", "(II)V"⟩
def tMd_wrong : tM := (prog_14_method_18_code, "MatchPipeModel", 3, "wrong", none, [])
def rMd_wrong : Room := { frames := 0, cells := 0, slots := 0, locals := 0 }
theorem kMd_wrong : cOf yMd_wrong tMd_wrong ∈ gT := gT_in 1483 (by decide +kernel) rfl
theorem iMd_wrong : Cond.initialized yMd_wrong.cls ∈ gT := gT_in 68 (by decide +kernel) rfl
theorem mMd_wrong : okM yMd_wrong 2 := ⟨by decide, by decide, by unfold nPar; decide +kernel⟩
theorem nMd_wrong : Cond.instanceMethod yMd_wrong ∈ gT := gT_in 1482 (by decide +kernel) rfl
theorem lMd_wrong : Cond.selects "MatchPipeModel" yMd_wrong yMd_wrong ∈ gT := gT_in 26 (by decide +kernel) rfl
def fMd_wrong (x0 : Nat) (x1 : Int32) (x2 : Int32) (S : Sx) : Option (Sx) :=
    (gI S 12 33 x0).bind fun v1 =>
    if v1 ≤ 0 then
    ((pI S 12 33 x0 x1).bind fun S3 =>
    (pI S3 12 34 x0 x2).bind fun S5 =>
    some S5)
    else
    (some S)
set_option maxRecDepth 100000 in
set_option maxHeartbeats 4000000 in
theorem wMd_wrong {Γ : vG} (hR : gR Γ = rMd_wrong) (hl : (gl Γ).flags = pinnedFlags ++ [noTraceFlag]) (x0 : Nat) (x1 : Int32) (x2 : Int32) (S : Sx) {X : Sx} (h : fMd_wrong x0 x1 x2 S = some X) : vV Γ tMd_wrong (mQ Γ 0 0 0 none X) S 0 0 0 [(0, .ref x0), (1, .int x1), (2, .int x2)] [] := by
  unfold fMd_wrong at h
  refine v_aload_n (pc := 0) (show decode (tC tMd_wrong) 0 = .ok (.aload_n 0, 1) by decide +kernel) 0 rfl rfl ?_
  obtain ⟨v1, e2, h⟩ := ob h
  refine v_getI (pc := 1) oF_Md_208 (by decide) e2 (show decode (tC tMd_wrong) 1 = .ok (.getfield 208, 3) by decide +kernel) ?_
  refine v_if_le (pc := 4) 8 (show decode (tC tMd_wrong) 4 = .ok (.ifCond .le 4, 3) by decide +kernel) (by decide) (fun c => ?_) (fun c => ?_)
  · replace h := ite_t c h
    refine v_aload_n (pc := 8) (show decode (tC tMd_wrong) 8 = .ok (.aload_n 0, 1) by decide +kernel) 0 rfl rfl ?_
    refine v_iload_n (pc := 9) (show decode (tC tMd_wrong) 9 = .ok (.iload_n 1, 1) by decide +kernel) 1 rfl rfl ?_
    obtain ⟨S3, e4, h⟩ := ob h
    refine v_putI (pc := 10) oF_Md_208 (fin_ok (kd := 12) (k := 33) (by decide +kernel)) e4 (show decode (tC tMd_wrong) 10 = .ok (.putfield 208, 3) by decide +kernel) ?_
    refine v_aload_n (pc := 13) (show decode (tC tMd_wrong) 13 = .ok (.aload_n 0, 1) by decide +kernel) 0 rfl rfl ?_
    refine v_iload_n (pc := 14) (show decode (tC tMd_wrong) 14 = .ok (.iload_n 2, 1) by decide +kernel) 2 rfl rfl ?_
    obtain ⟨S5, e6, h⟩ := ob h
    refine v_putI (pc := 15) oF_Md_85 (fin_ok (kd := 12) (k := 34) (by decide +kernel)) e6 (show decode (tC tMd_wrong) 15 = .ok (.putfield 85, 3) by decide +kernel) ?_
    obtain rfl := Option.some.inj h
    refine v_wide (ce2 := 0) (sl2 := 0) (by decide) (by decide) ?_
    exact v_vret (pc := 18) rfl (show decode (tC tMd_wrong) 18 = .ok (.return_, 1) by decide +kernel)
  · replace h := ite_f c h
    obtain rfl := Option.some.inj h
    refine v_wide (ce2 := 0) (sl2 := 0) (by decide) (by decide) ?_
    exact v_vret (pc := 7) rfl (show decode (tC tMd_wrong) 7 = .ok (.return_, 1) by decide +kernel)
theorem cMd_wrong {l : Launch} (hl : l.flags = pinnedFlags ++ [noTraceFlag]) {D : va_G} {dA : Nat → ClassId} {B : Nat} {x0 : Nat} {x1 : Int32} {x2 : Int32} {S : Sx} {X : Sx} (h : fMd_wrong x0 x1 x2 S = some X) : Mx l yMd_wrong tMd_wrong rMd_wrong 0 0 D dA B S [.ref x0, .int x1, .int x2] 0 none X :=
  mx_of hl (by decide) rfl rfl (Nat.le_of_ble_eq_true rfl) (fun Γ e1 e2 e3 e4 e5 => by subst e1; subst e3; subst e4; subst e5; exact wMd_wrong e2 hl x0 x1 x2 S h)
/-! MatchPipeModel.check()V -/
def yMd_check : MethodName := ⟨"MatchPipeModel", "check", "()V"⟩
def tMd_check : tM := (prog_14_method_21_code, "MatchPipeModel", 4, "check", none, [])
def rMd_check : Room := { frames := 2, cells := 0, slots := 0, locals := 48 }
theorem kMd_check : cOf yMd_check tMd_check ∈ gT := gT_in 1479 (by decide +kernel) rfl
theorem iMd_check : Cond.initialized yMd_check.cls ∈ gT := gT_in 68 (by decide +kernel) rfl
theorem mMd_check : okM yMd_check 0 := ⟨by decide, by decide, by unfold nPar; decide +kernel⟩
theorem nMd_check : Cond.instanceMethod yMd_check ∈ gT := gT_in 1478 (by decide +kernel) rfl
theorem lMd_check : Cond.selects "MatchPipeModel" yMd_check yMd_check ∈ gT := gT_in 25 (by decide +kernel) rfl
def fMd_check_267 (k258 : Nat → Int32 → Sx → Option (Sx)) : Nat → Nat → Int32 → Int32 → Int32 → Sx → Option (Sx)
  | 0, _, _, _, _, _ => none
  | n + 1, x0, x1, x2, x3, S =>
    (gI S 12 5 x0).bind fun v1 =>
    if v1 ≤ x3 then
    (if x2 ≤ 1 then
    (k258 x0 (x1 + 1) S)
    else
    ((ckd S x0 12).bind fun _ =>
    (fMd_wrong x0 5 x1 S).bind fun S5 =>
    k258 x0 (x1 + 1) S5))
    else
    ((gX S 12 27 x0).bind fun v6 =>
    (aI S v6 x3).bind fun v8 =>
    if v8 < 0 then
    (fMd_check_267 k258 n x0 x1 (x2 + 0) (x3 + 1) S)
    else
    ((gX S 12 27 x0).bind fun v10 =>
    (aI S v10 x3).bind fun v12 =>
    (ckd S x0 12).bind fun _ =>
    bd2 (fMd_uses x0 v12 x1 S) fun r16 S17 =>
    if r16 = 0 then
    (fMd_check_267 k258 n x0 x1 (x2 + 0) (x3 + 1) S17)
    else
    (fMd_check_267 k258 n x0 x1 (x2 + 1) (x3 + 1) S17)))
set_option maxRecDepth 100000 in
set_option maxHeartbeats 4000000 in
theorem wMd_check_267 {Γ : vG} (hR : gR Γ = rMd_check) (hl : (gl Γ).flags = pinnedFlags ++ [noTraceFlag]) {X : Sx} {k258 : Nat → Int32 → Sx → Option (Sx)} (hk258 : ∀ (x0 : Nat) (x1 : Int32) (S : Sx), k258 x0 x1 S = some X → vV Γ tMd_check (mQ Γ 0 0 0 none X) S 0 0 258 [(0, .ref x0), (1, .int x1)] []) : ∀ (n : Nat) (x0 : Nat) (x1 : Int32) (x2 : Int32) (x3 : Int32) (S : Sx), fMd_check_267 k258 n x0 x1 x2 x3 S = some X → vV Γ tMd_check (mQ Γ 0 0 0 none X) S 0 0 267 [(0, .ref x0), (1, .int x1), (2, .int x2), (3, .int x3)] [] := by
  intro n
  induction n with
  | zero => intro x0 x1 x2 x3 S h; rw [fMd_check_267] at h; cases h
  | succ n ih =>
    intro x0 x1 x2 x3 S h
    rw [fMd_check_267] at h
    refine v_iload_n (pc := 267) (show decode (tC tMd_check) 267 = .ok (.iload_n 3, 1) by decide +kernel) 3 rfl rfl ?_
    refine v_aload_n (pc := 268) (show decode (tC tMd_check) 268 = .ok (.aload_n 0, 1) by decide +kernel) 0 rfl rfl ?_
    obtain ⟨v1, e2, h⟩ := ob h
    refine v_getI (pc := 269) oF_Md_198 (by decide) e2 (show decode (tC tMd_check) 269 = .ok (.getfield 198, 3) by decide +kernel) ?_
    refine v_icmp_ge (pc := 272) 312 (show decode (tC tMd_check) 272 = .ok (.if_icmp .ge 40, 3) by decide +kernel) (by decide) (fun c => ?_) (fun c => ?_)
    · replace h := ite_t c h
      refine v_iload_n (pc := 312) (show decode (tC tMd_check) 312 = .ok (.iload_n 2, 1) by decide +kernel) 2 rfl rfl ?_
      refine v_iconst (pc := 313) (v := 1) (show decode (tC tMd_check) 313 = .ok (.iconst 1, 1) by decide +kernel) (by decide) ?_
      refine v_icmp_le (pc := 314) 323 (show decode (tC tMd_check) 314 = .ok (.if_icmp .le 9, 3) by decide +kernel) (by decide) (fun c => ?_) (fun c => ?_)
      · replace h := ite_t c h
        refine v_iinc (pc := 323) (j := 1) [(1, .int (x1 + 1)), (0, .ref x0), (2, .int x2), (3, .int x3)] (show decode (tC tMd_check) 323 = .ok (.iinc 1 1, 3) by decide +kernel) rfl rfl (by decide) rfl ?_
        refine v_goto (pc := 326) 258 (show decode (tC tMd_check) 326 = .ok (.goto (-68), 3) by decide +kernel) (by decide) ?_
        refine v_sub [(0, .ref x0), (1, .int (x1 + 1))] [1, 0] rfl ?_
        exact hk258 x0 (x1 + 1) S h
      · replace h := ite_f c h
        refine v_aload_n (pc := 317) (show decode (tC tMd_check) 317 = .ok (.aload_n 0, 1) by decide +kernel) 0 rfl rfl ?_
        refine v_iconst (pc := 318) (v := 5) (show decode (tC tMd_check) 318 = .ok (.iconst 5, 1) by decide +kernel) (by decide) ?_
        refine v_iload_n (pc := 319) (show decode (tC tMd_check) 319 = .ok (.iload_n 1, 1) by decide +kernel) 1 rfl rfl ?_
        obtain ⟨_, e4, h⟩ := ob h
        obtain ⟨S5, e3, h⟩ := ob h
        refine v_call (pc := 320) (v := none) (y := yMd_wrong) (θ' := tMd_wrong) (rm := rMd_wrong) (av := [.ref x0, .int 5, .int x1]) (st := []) (cMd_wrong (l := gl Γ) hl e3) kMd_wrong iMd_wrong (iv_virt (y := yMd_wrong) (θ' := tMd_wrong) (kd := 12) (As := [.int 5, .int x1]) rfl (ckd_of e4) kMd_wrong (gT_in 1480 (by decide +kernel) rfl) nMd_wrong lMd_wrong mMd_wrong rfl (show decode (tC tMd_check) 320 = .ok (.invokevirtual 254, 3) by decide +kernel)) ⟨by rw [hR]; decide, by rw [hR]; decide, by rw [hR]; decide, by rw [hR]; decide⟩ (Nat.le_of_ble_eq_true rfl) ?_
        refine v_iinc (pc := 323) (j := 1) [(1, .int (x1 + 1)), (0, .ref x0), (2, .int x2), (3, .int x3)] (show decode (tC tMd_check) 323 = .ok (.iinc 1 1, 3) by decide +kernel) rfl rfl (by decide) rfl ?_
        refine v_goto (pc := 326) 258 (show decode (tC tMd_check) 326 = .ok (.goto (-68), 3) by decide +kernel) (by decide) ?_
        refine v_sub [(0, .ref x0), (1, .int (x1 + 1))] [1, 0] rfl ?_
        exact hk258 x0 (x1 + 1) S5 h
    · replace h := ite_f c h
      refine v_iload_n (pc := 275) (show decode (tC tMd_check) 275 = .ok (.iload_n 2, 1) by decide +kernel) 2 rfl rfl ?_
      refine v_aload_n (pc := 276) (show decode (tC tMd_check) 276 = .ok (.aload_n 0, 1) by decide +kernel) 0 rfl rfl ?_
      obtain ⟨v6, e7, h⟩ := ob h
      refine v_getX (pc := 277) oF_Md_67 e7 (show decode (tC tMd_check) 277 = .ok (.getfield 67, 3) by decide +kernel) ?_
      refine v_iload_n (pc := 280) (show decode (tC tMd_check) 280 = .ok (.iload_n 3, 1) by decide +kernel) 3 rfl rfl ?_
      obtain ⟨v8, e9, h⟩ := ob h
      refine v_iald (pc := 281) e9 (show decode (tC tMd_check) 281 = .ok (.iaload, 1) by decide +kernel) ?_
      refine v_if_lt (pc := 282) 303 (show decode (tC tMd_check) 282 = .ok (.ifCond .lt 21, 3) by decide +kernel) (by decide) (fun c => ?_) (fun c => ?_)
      · replace h := ite_t c h
        refine v_iconst (pc := 303) (v := 0) (show decode (tC tMd_check) 303 = .ok (.iconst 0, 1) by decide +kernel) (by decide) ?_
        refine v_iadd (pc := 304) (show decode (tC tMd_check) 304 = .ok (.iadd, 1) by decide +kernel) ?_
        refine v_istore_n (pc := 305) [(2, .int (x2 + 0)), (0, .ref x0), (1, .int x1), (3, .int x3)] (show decode (tC tMd_check) 305 = .ok (.istore_n 2, 1) by decide +kernel) rfl (by decide) rfl ?_
        refine v_iinc (pc := 306) (j := 3) [(3, .int (x3 + 1)), (2, .int (x2 + 0)), (0, .ref x0), (1, .int x1)] (show decode (tC tMd_check) 306 = .ok (.iinc 3 1, 3) by decide +kernel) rfl rfl (by decide) rfl ?_
        refine v_goto (pc := 309) 267 (show decode (tC tMd_check) 309 = .ok (.goto (-42), 3) by decide +kernel) (by decide) ?_
        refine v_sub [(0, .ref x0), (1, .int x1), (2, .int (x2 + 0)), (3, .int (x3 + 1))] [2, 3, 1, 0] rfl ?_
        exact ih x0 x1 (x2 + 0) (x3 + 1) S h
      · replace h := ite_f c h
        refine v_aload_n (pc := 285) (show decode (tC tMd_check) 285 = .ok (.aload_n 0, 1) by decide +kernel) 0 rfl rfl ?_
        refine v_aload_n (pc := 286) (show decode (tC tMd_check) 286 = .ok (.aload_n 0, 1) by decide +kernel) 0 rfl rfl ?_
        obtain ⟨v10, e11, h⟩ := ob h
        refine v_getX (pc := 287) oF_Md_67 e11 (show decode (tC tMd_check) 287 = .ok (.getfield 67, 3) by decide +kernel) ?_
        refine v_iload_n (pc := 290) (show decode (tC tMd_check) 290 = .ok (.iload_n 3, 1) by decide +kernel) 3 rfl rfl ?_
        obtain ⟨v12, e13, h⟩ := ob h
        refine v_iald (pc := 291) e13 (show decode (tC tMd_check) 291 = .ok (.iaload, 1) by decide +kernel) ?_
        refine v_iload_n (pc := 292) (show decode (tC tMd_check) 292 = .ok (.iload_n 1, 1) by decide +kernel) 1 rfl rfl ?_
        obtain ⟨_, e15, h⟩ := ob h
        obtain ⟨r16, S17, e14, h⟩ := ob2 h
        refine v_call (pc := 293) (v := (some (.int r16))) (y := yMd_uses) (θ' := tMd_uses) (rm := rMd_uses) (av := [.ref x0, .int v12, .int x1]) (st := [.int x2]) (cMd_uses (l := gl Γ) hl e14) kMd_uses iMd_uses (iv_virt (y := yMd_uses) (θ' := tMd_uses) (kd := 12) (As := [.int v12, .int x1]) rfl (ckd_of e15) kMd_uses (gT_in 1492 (by decide +kernel) rfl) nMd_uses lMd_uses mMd_uses rfl (show decode (tC tMd_check) 293 = .ok (.invokevirtual 262, 3) by decide +kernel)) ⟨by rw [hR]; decide, by rw [hR]; decide, by rw [hR]; decide, by rw [hR]; decide⟩ (Nat.le_of_ble_eq_true rfl) ?_
        refine v_if_eq (pc := 296) 303 (show decode (tC tMd_check) 296 = .ok (.ifCond .eq 7, 3) by decide +kernel) (by decide) (fun c => ?_) (fun c => ?_)
        · replace h := ite_t c h
          refine v_iconst (pc := 303) (v := 0) (show decode (tC tMd_check) 303 = .ok (.iconst 0, 1) by decide +kernel) (by decide) ?_
          refine v_iadd (pc := 304) (show decode (tC tMd_check) 304 = .ok (.iadd, 1) by decide +kernel) ?_
          refine v_istore_n (pc := 305) [(2, .int (x2 + 0)), (0, .ref x0), (1, .int x1), (3, .int x3)] (show decode (tC tMd_check) 305 = .ok (.istore_n 2, 1) by decide +kernel) rfl (by decide) rfl ?_
          refine v_iinc (pc := 306) (j := 3) [(3, .int (x3 + 1)), (2, .int (x2 + 0)), (0, .ref x0), (1, .int x1)] (show decode (tC tMd_check) 306 = .ok (.iinc 3 1, 3) by decide +kernel) rfl rfl (by decide) rfl ?_
          refine v_goto (pc := 309) 267 (show decode (tC tMd_check) 309 = .ok (.goto (-42), 3) by decide +kernel) (by decide) ?_
          refine v_sub [(0, .ref x0), (1, .int x1), (2, .int (x2 + 0)), (3, .int (x3 + 1))] [2, 3, 1, 0] rfl ?_
          exact ih x0 x1 (x2 + 0) (x3 + 1) S17 h
        · replace h := ite_f c h
          refine v_iconst (pc := 299) (v := 1) (show decode (tC tMd_check) 299 = .ok (.iconst 1, 1) by decide +kernel) (by decide) ?_
          refine v_goto (pc := 300) 304 (show decode (tC tMd_check) 300 = .ok (.goto 4, 3) by decide +kernel) (by decide) ?_
          refine v_iadd (pc := 304) (show decode (tC tMd_check) 304 = .ok (.iadd, 1) by decide +kernel) ?_
          refine v_istore_n (pc := 305) [(2, .int (x2 + 1)), (0, .ref x0), (1, .int x1), (3, .int x3)] (show decode (tC tMd_check) 305 = .ok (.istore_n 2, 1) by decide +kernel) rfl (by decide) rfl ?_
          refine v_iinc (pc := 306) (j := 3) [(3, .int (x3 + 1)), (2, .int (x2 + 1)), (0, .ref x0), (1, .int x1)] (show decode (tC tMd_check) 306 = .ok (.iinc 3 1, 3) by decide +kernel) rfl rfl (by decide) rfl ?_
          refine v_goto (pc := 309) 267 (show decode (tC tMd_check) 309 = .ok (.goto (-42), 3) by decide +kernel) (by decide) ?_
          refine v_sub [(0, .ref x0), (1, .int x1), (2, .int (x2 + 1)), (3, .int (x3 + 1))] [2, 3, 1, 0] rfl ?_
          exact ih x0 x1 (x2 + 1) (x3 + 1) S17 h
def fMd_check_258  : Nat → Nat → Int32 → Sx → Option (Sx)
  | 0, _, _, _ => none
  | n + 1, x0, x1, S =>
    if (4 : Int32) ≤ x1 then
    (some S)
    else
    (fMd_check_267 (fun y0 y1 T => fMd_check_258 n y0 y1 T) fuel x0 x1 0 0 S)
set_option maxRecDepth 100000 in
set_option maxHeartbeats 4000000 in
theorem wMd_check_258 {Γ : vG} (hR : gR Γ = rMd_check) (hl : (gl Γ).flags = pinnedFlags ++ [noTraceFlag]) {X : Sx}  : ∀ (n : Nat) (x0 : Nat) (x1 : Int32) (S : Sx), fMd_check_258  n x0 x1 S = some X → vV Γ tMd_check (mQ Γ 0 0 0 none X) S 0 0 258 [(0, .ref x0), (1, .int x1)] [] := by
  intro n
  induction n with
  | zero => intro x0 x1 S h; rw [fMd_check_258] at h; cases h
  | succ n ih =>
    intro x0 x1 S h
    rw [fMd_check_258] at h
    refine v_iload_n (pc := 258) (show decode (tC tMd_check) 258 = .ok (.iload_n 1, 1) by decide +kernel) 1 rfl rfl ?_
    refine v_iconst (pc := 259) (v := 4) (show decode (tC tMd_check) 259 = .ok (.iconst 4, 1) by decide +kernel) (by decide) ?_
    refine v_icmp_ge (pc := 260) 329 (show decode (tC tMd_check) 260 = .ok (.if_icmp .ge 69, 3) by decide +kernel) (by decide) (fun c => ?_) (fun c => ?_)
    · replace h := ite_t c h
      obtain rfl := Option.some.inj h
      refine v_wide (ce2 := 0) (sl2 := 0) (by decide) (by decide) ?_
      exact v_vret (pc := 329) rfl (show decode (tC tMd_check) 329 = .ok (.return_, 1) by decide +kernel)
    · replace h := ite_f c h
      refine v_iconst (pc := 263) (v := 0) (show decode (tC tMd_check) 263 = .ok (.iconst 0, 1) by decide +kernel) (by decide) ?_
      refine v_istore_n (pc := 264) [(2, .int 0), (0, .ref x0), (1, .int x1)] (show decode (tC tMd_check) 264 = .ok (.istore_n 2, 1) by decide +kernel) rfl (by decide) rfl ?_
      refine v_iconst (pc := 265) (v := 0) (show decode (tC tMd_check) 265 = .ok (.iconst 0, 1) by decide +kernel) (by decide) ?_
      refine v_istore_n (pc := 266) [(3, .int 0), (2, .int 0), (0, .ref x0), (1, .int x1)] (show decode (tC tMd_check) 266 = .ok (.istore_n 3, 1) by decide +kernel) rfl (by decide) rfl ?_
      refine v_sub [(0, .ref x0), (1, .int x1), (2, .int 0), (3, .int 0)] [2, 3, 1, 0] rfl ?_
      exact wMd_check_267 hR hl (fun y0 y1 T h => ih y0 y1 T h) fuel x0 x1 0 0 S h
def fMd_check_209 (k199 : Nat → Int32 → Sx → Option (Sx)) : Nat → Nat → Int32 → Int32 → Sx → Option (Sx)
  | 0, _, _, _, _ => none
  | n + 1, x0, x1, x2, S =>
    if x1 ≤ x2 then
    (k199 x0 (x1 + 1) S)
    else
    ((gX S 12 27 x0).bind fun v1 =>
    (aI S v1 x1).bind fun v3 =>
    if v3 < 0 then
    (fMd_check_209 k199 n x0 x1 (x2 + 1) S)
    else
    ((gX S 12 27 x0).bind fun v5 =>
    (aI S v5 x1).bind fun v7 =>
    (gX S 12 27 x0).bind fun v9 =>
    (aI S v9 x2).bind fun v11 =>
    if v7 = v11 then
    ((ckd S x0 12).bind fun _ =>
    (fMd_wrong x0 4 x1 S).bind fun S15 =>
    fMd_check_209 k199 n x0 x1 (x2 + 1) S15)
    else
    (fMd_check_209 k199 n x0 x1 (x2 + 1) S)))
set_option maxRecDepth 100000 in
set_option maxHeartbeats 4000000 in
theorem wMd_check_209 {Γ : vG} (hR : gR Γ = rMd_check) (hl : (gl Γ).flags = pinnedFlags ++ [noTraceFlag]) {X : Sx} {k199 : Nat → Int32 → Sx → Option (Sx)} (hk199 : ∀ (x0 : Nat) (x1 : Int32) (S : Sx), k199 x0 x1 S = some X → vV Γ tMd_check (mQ Γ 0 0 0 none X) S 0 0 199 [(0, .ref x0), (1, .int x1)] []) : ∀ (n : Nat) (x0 : Nat) (x1 : Int32) (x2 : Int32) (S : Sx), fMd_check_209 k199 n x0 x1 x2 S = some X → vV Γ tMd_check (mQ Γ 0 0 0 none X) S 0 0 209 [(0, .ref x0), (1, .int x1), (2, .int x2)] [] := by
  intro n
  induction n with
  | zero => intro x0 x1 x2 S h; rw [fMd_check_209] at h; cases h
  | succ n ih =>
    intro x0 x1 x2 S h
    rw [fMd_check_209] at h
    refine v_iload_n (pc := 209) (show decode (tC tMd_check) 209 = .ok (.iload_n 2, 1) by decide +kernel) 2 rfl rfl ?_
    refine v_iload_n (pc := 210) (show decode (tC tMd_check) 210 = .ok (.iload_n 1, 1) by decide +kernel) 1 rfl rfl ?_
    refine v_icmp_ge (pc := 211) 250 (show decode (tC tMd_check) 211 = .ok (.if_icmp .ge 39, 3) by decide +kernel) (by decide) (fun c => ?_) (fun c => ?_)
    · replace h := ite_t c h
      refine v_iinc (pc := 250) (j := 1) [(1, .int (x1 + 1)), (0, .ref x0), (2, .int x2)] (show decode (tC tMd_check) 250 = .ok (.iinc 1 1, 3) by decide +kernel) rfl rfl (by decide) rfl ?_
      refine v_goto (pc := 253) 199 (show decode (tC tMd_check) 253 = .ok (.goto (-54), 3) by decide +kernel) (by decide) ?_
      refine v_sub [(0, .ref x0), (1, .int (x1 + 1))] [1, 0] rfl ?_
      exact hk199 x0 (x1 + 1) S h
    · replace h := ite_f c h
      refine v_aload_n (pc := 214) (show decode (tC tMd_check) 214 = .ok (.aload_n 0, 1) by decide +kernel) 0 rfl rfl ?_
      obtain ⟨v1, e2, h⟩ := ob h
      refine v_getX (pc := 215) oF_Md_67 e2 (show decode (tC tMd_check) 215 = .ok (.getfield 67, 3) by decide +kernel) ?_
      refine v_iload_n (pc := 218) (show decode (tC tMd_check) 218 = .ok (.iload_n 1, 1) by decide +kernel) 1 rfl rfl ?_
      obtain ⟨v3, e4, h⟩ := ob h
      refine v_iald (pc := 219) e4 (show decode (tC tMd_check) 219 = .ok (.iaload, 1) by decide +kernel) ?_
      refine v_if_lt (pc := 220) 244 (show decode (tC tMd_check) 220 = .ok (.ifCond .lt 24, 3) by decide +kernel) (by decide) (fun c => ?_) (fun c => ?_)
      · replace h := ite_t c h
        refine v_iinc (pc := 244) (j := 2) [(2, .int (x2 + 1)), (0, .ref x0), (1, .int x1)] (show decode (tC tMd_check) 244 = .ok (.iinc 2 1, 3) by decide +kernel) rfl rfl (by decide) rfl ?_
        refine v_goto (pc := 247) 209 (show decode (tC tMd_check) 247 = .ok (.goto (-38), 3) by decide +kernel) (by decide) ?_
        refine v_sub [(0, .ref x0), (1, .int x1), (2, .int (x2 + 1))] [1, 2, 0] rfl ?_
        exact ih x0 x1 (x2 + 1) S h
      · replace h := ite_f c h
        refine v_aload_n (pc := 223) (show decode (tC tMd_check) 223 = .ok (.aload_n 0, 1) by decide +kernel) 0 rfl rfl ?_
        obtain ⟨v5, e6, h⟩ := ob h
        refine v_getX (pc := 224) oF_Md_67 e6 (show decode (tC tMd_check) 224 = .ok (.getfield 67, 3) by decide +kernel) ?_
        refine v_iload_n (pc := 227) (show decode (tC tMd_check) 227 = .ok (.iload_n 1, 1) by decide +kernel) 1 rfl rfl ?_
        obtain ⟨v7, e8, h⟩ := ob h
        refine v_iald (pc := 228) e8 (show decode (tC tMd_check) 228 = .ok (.iaload, 1) by decide +kernel) ?_
        refine v_aload_n (pc := 229) (show decode (tC tMd_check) 229 = .ok (.aload_n 0, 1) by decide +kernel) 0 rfl rfl ?_
        obtain ⟨v9, e10, h⟩ := ob h
        refine v_getX (pc := 230) oF_Md_67 e10 (show decode (tC tMd_check) 230 = .ok (.getfield 67, 3) by decide +kernel) ?_
        refine v_iload_n (pc := 233) (show decode (tC tMd_check) 233 = .ok (.iload_n 2, 1) by decide +kernel) 2 rfl rfl ?_
        obtain ⟨v11, e12, h⟩ := ob h
        refine v_iald (pc := 234) e12 (show decode (tC tMd_check) 234 = .ok (.iaload, 1) by decide +kernel) ?_
        refine v_icmp_ne (pc := 235) 244 (show decode (tC tMd_check) 235 = .ok (.if_icmp .ne 9, 3) by decide +kernel) (by decide) (fun c => ?_) (fun c => ?_)
        · replace h := ite_f c h
          refine v_iinc (pc := 244) (j := 2) [(2, .int (x2 + 1)), (0, .ref x0), (1, .int x1)] (show decode (tC tMd_check) 244 = .ok (.iinc 2 1, 3) by decide +kernel) rfl rfl (by decide) rfl ?_
          refine v_goto (pc := 247) 209 (show decode (tC tMd_check) 247 = .ok (.goto (-38), 3) by decide +kernel) (by decide) ?_
          refine v_sub [(0, .ref x0), (1, .int x1), (2, .int (x2 + 1))] [1, 2, 0] rfl ?_
          exact ih x0 x1 (x2 + 1) S h
        · replace h := ite_t c h
          refine v_aload_n (pc := 238) (show decode (tC tMd_check) 238 = .ok (.aload_n 0, 1) by decide +kernel) 0 rfl rfl ?_
          refine v_iconst (pc := 239) (v := 4) (show decode (tC tMd_check) 239 = .ok (.iconst 4, 1) by decide +kernel) (by decide) ?_
          refine v_iload_n (pc := 240) (show decode (tC tMd_check) 240 = .ok (.iload_n 1, 1) by decide +kernel) 1 rfl rfl ?_
          obtain ⟨_, e14, h⟩ := ob h
          obtain ⟨S15, e13, h⟩ := ob h
          refine v_call (pc := 241) (v := none) (y := yMd_wrong) (θ' := tMd_wrong) (rm := rMd_wrong) (av := [.ref x0, .int 4, .int x1]) (st := []) (cMd_wrong (l := gl Γ) hl e13) kMd_wrong iMd_wrong (iv_virt (y := yMd_wrong) (θ' := tMd_wrong) (kd := 12) (As := [.int 4, .int x1]) rfl (ckd_of e14) kMd_wrong (gT_in 1480 (by decide +kernel) rfl) nMd_wrong lMd_wrong mMd_wrong rfl (show decode (tC tMd_check) 241 = .ok (.invokevirtual 254, 3) by decide +kernel)) ⟨by rw [hR]; decide, by rw [hR]; decide, by rw [hR]; decide, by rw [hR]; decide⟩ (Nat.le_of_ble_eq_true rfl) ?_
          refine v_iinc (pc := 244) (j := 2) [(2, .int (x2 + 1)), (0, .ref x0), (1, .int x1)] (show decode (tC tMd_check) 244 = .ok (.iinc 2 1, 3) by decide +kernel) rfl rfl (by decide) rfl ?_
          refine v_goto (pc := 247) 209 (show decode (tC tMd_check) 247 = .ok (.goto (-38), 3) by decide +kernel) (by decide) ?_
          refine v_sub [(0, .ref x0), (1, .int x1), (2, .int (x2 + 1))] [1, 2, 0] rfl ?_
          exact ih x0 x1 (x2 + 1) S15 h
def fMd_check_199  : Nat → Nat → Int32 → Sx → Option (Sx)
  | 0, _, _, _ => none
  | n + 1, x0, x1, S =>
    (gI S 12 5 x0).bind fun v1 =>
    if v1 ≤ x1 then
    (fMd_check_258  fuel x0 0 S)
    else
    (fMd_check_209 (fun y0 y1 T => fMd_check_199 n y0 y1 T) fuel x0 x1 0 S)
set_option maxRecDepth 100000 in
set_option maxHeartbeats 4000000 in
theorem wMd_check_199 {Γ : vG} (hR : gR Γ = rMd_check) (hl : (gl Γ).flags = pinnedFlags ++ [noTraceFlag]) {X : Sx}  : ∀ (n : Nat) (x0 : Nat) (x1 : Int32) (S : Sx), fMd_check_199  n x0 x1 S = some X → vV Γ tMd_check (mQ Γ 0 0 0 none X) S 0 0 199 [(0, .ref x0), (1, .int x1)] [] := by
  intro n
  induction n with
  | zero => intro x0 x1 S h; rw [fMd_check_199] at h; cases h
  | succ n ih =>
    intro x0 x1 S h
    rw [fMd_check_199] at h
    refine v_iload_n (pc := 199) (show decode (tC tMd_check) 199 = .ok (.iload_n 1, 1) by decide +kernel) 1 rfl rfl ?_
    refine v_aload_n (pc := 200) (show decode (tC tMd_check) 200 = .ok (.aload_n 0, 1) by decide +kernel) 0 rfl rfl ?_
    obtain ⟨v1, e2, h⟩ := ob h
    refine v_getI (pc := 201) oF_Md_198 (by decide) e2 (show decode (tC tMd_check) 201 = .ok (.getfield 198, 3) by decide +kernel) ?_
    refine v_icmp_ge (pc := 204) 256 (show decode (tC tMd_check) 204 = .ok (.if_icmp .ge 52, 3) by decide +kernel) (by decide) (fun c => ?_) (fun c => ?_)
    · replace h := ite_t c h
      refine v_iconst (pc := 256) (v := 0) (show decode (tC tMd_check) 256 = .ok (.iconst 0, 1) by decide +kernel) (by decide) ?_
      refine v_istore_n (pc := 257) [(1, .int 0), (0, .ref x0)] (show decode (tC tMd_check) 257 = .ok (.istore_n 1, 1) by decide +kernel) rfl (by decide) rfl ?_
      refine v_sub [(0, .ref x0), (1, .int 0)] [1, 0] rfl ?_
      exact wMd_check_258 hR hl  fuel x0 0 S h
    · replace h := ite_f c h
      refine v_iconst (pc := 207) (v := 0) (show decode (tC tMd_check) 207 = .ok (.iconst 0, 1) by decide +kernel) (by decide) ?_
      refine v_istore_n (pc := 208) [(2, .int 0), (0, .ref x0), (1, .int x1)] (show decode (tC tMd_check) 208 = .ok (.istore_n 2, 1) by decide +kernel) rfl (by decide) rfl ?_
      refine v_sub [(0, .ref x0), (1, .int x1), (2, .int 0)] [1, 2, 0] rfl ?_
      exact wMd_check_209 hR hl (fun y0 y1 T h => ih y0 y1 T h) fuel x0 x1 0 S h
def fMd_check_185 (k145 : Nat → Int32 → Sx → Option (Sx)) (x0 : Nat) (x1 : Int32) (S : Sx) : Option (Sx) :=
    (ckd S x0 12).bind fun _ =>
    (fMd_wrong x0 3 x1 S).bind fun S3 =>
    k145 x0 (x1 + 1) S3
set_option maxRecDepth 100000 in
set_option maxHeartbeats 4000000 in
theorem wMd_check_185 {Γ : vG} (hR : gR Γ = rMd_check) (hl : (gl Γ).flags = pinnedFlags ++ [noTraceFlag]) {X : Sx} {k145 : Nat → Int32 → Sx → Option (Sx)} (hk145 : ∀ (x0 : Nat) (x1 : Int32) (S : Sx), k145 x0 x1 S = some X → vV Γ tMd_check (mQ Γ 0 0 0 none X) S 0 0 145 [(0, .ref x0), (1, .int x1)] []) : ∀ (x0 : Nat) (x1 : Int32) (S : Sx), fMd_check_185 k145 x0 x1 S = some X → vV Γ tMd_check (mQ Γ 0 0 0 none X) S 0 0 185 [(0, .ref x0), (1, .int x1)] [] := by
  intro x0 x1 S h
  unfold fMd_check_185 at h
  refine v_aload_n (pc := 185) (show decode (tC tMd_check) 185 = .ok (.aload_n 0, 1) by decide +kernel) 0 rfl rfl ?_
  refine v_iconst (pc := 186) (v := 3) (show decode (tC tMd_check) 186 = .ok (.iconst 3, 1) by decide +kernel) (by decide) ?_
  refine v_iload_n (pc := 187) (show decode (tC tMd_check) 187 = .ok (.iload_n 1, 1) by decide +kernel) 1 rfl rfl ?_
  obtain ⟨_, e2, h⟩ := ob h
  obtain ⟨S3, e1, h⟩ := ob h
  refine v_call (pc := 188) (v := none) (y := yMd_wrong) (θ' := tMd_wrong) (rm := rMd_wrong) (av := [.ref x0, .int 3, .int x1]) (st := []) (cMd_wrong (l := gl Γ) hl e1) kMd_wrong iMd_wrong (iv_virt (y := yMd_wrong) (θ' := tMd_wrong) (kd := 12) (As := [.int 3, .int x1]) rfl (ckd_of e2) kMd_wrong (gT_in 1480 (by decide +kernel) rfl) nMd_wrong lMd_wrong mMd_wrong rfl (show decode (tC tMd_check) 188 = .ok (.invokevirtual 254, 3) by decide +kernel)) ⟨by rw [hR]; decide, by rw [hR]; decide, by rw [hR]; decide, by rw [hR]; decide⟩ (Nat.le_of_ble_eq_true rfl) ?_
  refine v_iinc (pc := 191) (j := 1) [(1, .int (x1 + 1)), (0, .ref x0)] (show decode (tC tMd_check) 191 = .ok (.iinc 1 1, 3) by decide +kernel) rfl rfl (by decide) rfl ?_
  refine v_goto (pc := 194) 145 (show decode (tC tMd_check) 194 = .ok (.goto (-49), 3) by decide +kernel) (by decide) ?_
  refine v_sub [(0, .ref x0), (1, .int (x1 + 1))] [1, 0] rfl ?_
  exact hk145 x0 (x1 + 1) S3 h
def fMd_check_145  : Nat → Nat → Int32 → Sx → Option (Sx)
  | 0, _, _, _ => none
  | n + 1, x0, x1, S =>
    (gI S 12 5 x0).bind fun v1 =>
    if v1 ≤ x1 then
    (fMd_check_199  fuel x0 0 S)
    else
    ((gX S 12 27 x0).bind fun v3 =>
    (aI S v3 x1).bind fun v5 =>
    if (0 : Int32) ≤ v5 then
    (fMd_check_145 n x0 (x1 + 1) S)
    else
    ((gX S 12 31 x0).bind fun v7 =>
    (aI S v7 x1).bind fun v9 =>
    if v9 ≤ x1 then
    (fMd_check_185 (fun y0 y1 T => fMd_check_145 n y0 y1 T) x0 x1 S)
    else
    ((gX S 12 31 x0).bind fun v11 =>
    (aI S v11 x1).bind fun v13 =>
    (gI S 12 5 x0).bind fun v15 =>
    if v13 ≤ v15 then
    (fMd_check_145 n x0 (x1 + 1) S)
    else
    (fMd_check_185 (fun y0 y1 T => fMd_check_145 n y0 y1 T) x0 x1 S))))
set_option maxRecDepth 100000 in
set_option maxHeartbeats 4000000 in
theorem wMd_check_145 {Γ : vG} (hR : gR Γ = rMd_check) (hl : (gl Γ).flags = pinnedFlags ++ [noTraceFlag]) {X : Sx}  : ∀ (n : Nat) (x0 : Nat) (x1 : Int32) (S : Sx), fMd_check_145  n x0 x1 S = some X → vV Γ tMd_check (mQ Γ 0 0 0 none X) S 0 0 145 [(0, .ref x0), (1, .int x1)] [] := by
  intro n
  induction n with
  | zero => intro x0 x1 S h; rw [fMd_check_145] at h; cases h
  | succ n ih =>
    intro x0 x1 S h
    rw [fMd_check_145] at h
    refine v_iload_n (pc := 145) (show decode (tC tMd_check) 145 = .ok (.iload_n 1, 1) by decide +kernel) 1 rfl rfl ?_
    refine v_aload_n (pc := 146) (show decode (tC tMd_check) 146 = .ok (.aload_n 0, 1) by decide +kernel) 0 rfl rfl ?_
    obtain ⟨v1, e2, h⟩ := ob h
    refine v_getI (pc := 147) oF_Md_198 (by decide) e2 (show decode (tC tMd_check) 147 = .ok (.getfield 198, 3) by decide +kernel) ?_
    refine v_icmp_ge (pc := 150) 197 (show decode (tC tMd_check) 150 = .ok (.if_icmp .ge 47, 3) by decide +kernel) (by decide) (fun c => ?_) (fun c => ?_)
    · replace h := ite_t c h
      refine v_iconst (pc := 197) (v := 0) (show decode (tC tMd_check) 197 = .ok (.iconst 0, 1) by decide +kernel) (by decide) ?_
      refine v_istore_n (pc := 198) [(1, .int 0), (0, .ref x0)] (show decode (tC tMd_check) 198 = .ok (.istore_n 1, 1) by decide +kernel) rfl (by decide) rfl ?_
      refine v_sub [(0, .ref x0), (1, .int 0)] [1, 0] rfl ?_
      exact wMd_check_199 hR hl  fuel x0 0 S h
    · replace h := ite_f c h
      refine v_aload_n (pc := 153) (show decode (tC tMd_check) 153 = .ok (.aload_n 0, 1) by decide +kernel) 0 rfl rfl ?_
      obtain ⟨v3, e4, h⟩ := ob h
      refine v_getX (pc := 154) oF_Md_67 e4 (show decode (tC tMd_check) 154 = .ok (.getfield 67, 3) by decide +kernel) ?_
      refine v_iload_n (pc := 157) (show decode (tC tMd_check) 157 = .ok (.iload_n 1, 1) by decide +kernel) 1 rfl rfl ?_
      obtain ⟨v5, e6, h⟩ := ob h
      refine v_iald (pc := 158) e6 (show decode (tC tMd_check) 158 = .ok (.iaload, 1) by decide +kernel) ?_
      refine v_if_ge (pc := 159) 191 (show decode (tC tMd_check) 159 = .ok (.ifCond .ge 32, 3) by decide +kernel) (by decide) (fun c => ?_) (fun c => ?_)
      · replace h := ite_t c h
        refine v_iinc (pc := 191) (j := 1) [(1, .int (x1 + 1)), (0, .ref x0)] (show decode (tC tMd_check) 191 = .ok (.iinc 1 1, 3) by decide +kernel) rfl rfl (by decide) rfl ?_
        refine v_goto (pc := 194) 145 (show decode (tC tMd_check) 194 = .ok (.goto (-49), 3) by decide +kernel) (by decide) ?_
        refine v_sub [(0, .ref x0), (1, .int (x1 + 1))] [1, 0] rfl ?_
        exact ih x0 (x1 + 1) S h
      · replace h := ite_f c h
        refine v_aload_n (pc := 162) (show decode (tC tMd_check) 162 = .ok (.aload_n 0, 1) by decide +kernel) 0 rfl rfl ?_
        obtain ⟨v7, e8, h⟩ := ob h
        refine v_getX (pc := 163) oF_Md_79 e8 (show decode (tC tMd_check) 163 = .ok (.getfield 79, 3) by decide +kernel) ?_
        refine v_iload_n (pc := 166) (show decode (tC tMd_check) 166 = .ok (.iload_n 1, 1) by decide +kernel) 1 rfl rfl ?_
        obtain ⟨v9, e10, h⟩ := ob h
        refine v_iald (pc := 167) e10 (show decode (tC tMd_check) 167 = .ok (.iaload, 1) by decide +kernel) ?_
        refine v_iload_n (pc := 168) (show decode (tC tMd_check) 168 = .ok (.iload_n 1, 1) by decide +kernel) 1 rfl rfl ?_
        refine v_icmp_le (pc := 169) 185 (show decode (tC tMd_check) 169 = .ok (.if_icmp .le 16, 3) by decide +kernel) (by decide) (fun c => ?_) (fun c => ?_)
        · replace h := ite_t c h
          exact wMd_check_185 hR hl (fun y0 y1 T h => ih y0 y1 T h) x0 x1 S h
        · replace h := ite_f c h
          refine v_aload_n (pc := 172) (show decode (tC tMd_check) 172 = .ok (.aload_n 0, 1) by decide +kernel) 0 rfl rfl ?_
          obtain ⟨v11, e12, h⟩ := ob h
          refine v_getX (pc := 173) oF_Md_79 e12 (show decode (tC tMd_check) 173 = .ok (.getfield 79, 3) by decide +kernel) ?_
          refine v_iload_n (pc := 176) (show decode (tC tMd_check) 176 = .ok (.iload_n 1, 1) by decide +kernel) 1 rfl rfl ?_
          obtain ⟨v13, e14, h⟩ := ob h
          refine v_iald (pc := 177) e14 (show decode (tC tMd_check) 177 = .ok (.iaload, 1) by decide +kernel) ?_
          refine v_aload_n (pc := 178) (show decode (tC tMd_check) 178 = .ok (.aload_n 0, 1) by decide +kernel) 0 rfl rfl ?_
          obtain ⟨v15, e16, h⟩ := ob h
          refine v_getI (pc := 179) oF_Md_198 (by decide) e16 (show decode (tC tMd_check) 179 = .ok (.getfield 198, 3) by decide +kernel) ?_
          refine v_icmp_le (pc := 182) 191 (show decode (tC tMd_check) 182 = .ok (.if_icmp .le 9, 3) by decide +kernel) (by decide) (fun c => ?_) (fun c => ?_)
          · replace h := ite_t c h
            refine v_iinc (pc := 191) (j := 1) [(1, .int (x1 + 1)), (0, .ref x0)] (show decode (tC tMd_check) 191 = .ok (.iinc 1 1, 3) by decide +kernel) rfl rfl (by decide) rfl ?_
            refine v_goto (pc := 194) 145 (show decode (tC tMd_check) 194 = .ok (.goto (-49), 3) by decide +kernel) (by decide) ?_
            refine v_sub [(0, .ref x0), (1, .int (x1 + 1))] [1, 0] rfl ?_
            exact ih x0 (x1 + 1) S h
          · replace h := ite_f c h
            exact wMd_check_185 hR hl (fun y0 y1 T h => ih y0 y1 T h) x0 x1 S h
def fMd_check_115  : Nat → Nat → Int32 → Sx → Option (Sx)
  | 0, _, _, _ => none
  | n + 1, x0, x1, S =>
    (gI S 12 2 x0).bind fun v1 =>
    if v1 ≤ x1 then
    (fMd_check_145  fuel x0 0 S)
    else
    ((ckd S x0 12).bind fun _ =>
    bd2 (fMd_comesRound x0 x1 S) fun r5 S6 =>
    if r5 = 0 then
    (fMd_check_115 n x0 (x1 + 1) S6)
    else
    ((ckd S6 x0 12).bind fun _ =>
    (fMd_wrong x0 2 x1 S6).bind fun S9 =>
    fMd_check_115 n x0 (x1 + 1) S9))
set_option maxRecDepth 100000 in
set_option maxHeartbeats 4000000 in
theorem wMd_check_115 {Γ : vG} (hR : gR Γ = rMd_check) (hl : (gl Γ).flags = pinnedFlags ++ [noTraceFlag]) {X : Sx}  : ∀ (n : Nat) (x0 : Nat) (x1 : Int32) (S : Sx), fMd_check_115  n x0 x1 S = some X → vV Γ tMd_check (mQ Γ 0 0 0 none X) S 0 0 115 [(0, .ref x0), (1, .int x1)] [] := by
  intro n
  induction n with
  | zero => intro x0 x1 S h; rw [fMd_check_115] at h; cases h
  | succ n ih =>
    intro x0 x1 S h
    rw [fMd_check_115] at h
    refine v_iload_n (pc := 115) (show decode (tC tMd_check) 115 = .ok (.iload_n 1, 1) by decide +kernel) 1 rfl rfl ?_
    refine v_aload_n (pc := 116) (show decode (tC tMd_check) 116 = .ok (.aload_n 0, 1) by decide +kernel) 0 rfl rfl ?_
    obtain ⟨v1, e2, h⟩ := ob h
    refine v_getI (pc := 117) oF_Md_189 (by decide) e2 (show decode (tC tMd_check) 117 = .ok (.getfield 189, 3) by decide +kernel) ?_
    refine v_icmp_ge (pc := 120) 143 (show decode (tC tMd_check) 120 = .ok (.if_icmp .ge 23, 3) by decide +kernel) (by decide) (fun c => ?_) (fun c => ?_)
    · replace h := ite_t c h
      refine v_iconst (pc := 143) (v := 0) (show decode (tC tMd_check) 143 = .ok (.iconst 0, 1) by decide +kernel) (by decide) ?_
      refine v_istore_n (pc := 144) [(1, .int 0), (0, .ref x0)] (show decode (tC tMd_check) 144 = .ok (.istore_n 1, 1) by decide +kernel) rfl (by decide) rfl ?_
      refine v_sub [(0, .ref x0), (1, .int 0)] [1, 0] rfl ?_
      exact wMd_check_145 hR hl  fuel x0 0 S h
    · replace h := ite_f c h
      refine v_aload_n (pc := 123) (show decode (tC tMd_check) 123 = .ok (.aload_n 0, 1) by decide +kernel) 0 rfl rfl ?_
      refine v_iload_n (pc := 124) (show decode (tC tMd_check) 124 = .ok (.iload_n 1, 1) by decide +kernel) 1 rfl rfl ?_
      obtain ⟨_, e4, h⟩ := ob h
      obtain ⟨r5, S6, e3, h⟩ := ob2 h
      refine v_call (pc := 125) (v := (some (.int r5))) (y := yMd_comesRound) (θ' := tMd_comesRound) (rm := rMd_comesRound) (av := [.ref x0, .int x1]) (st := []) (cMd_comesRound (l := gl Γ) hl e3) kMd_comesRound iMd_comesRound (iv_virt (y := yMd_comesRound) (θ' := tMd_comesRound) (kd := 12) (As := [.int x1]) rfl (ckd_of e4) kMd_comesRound (gT_in 1484 (by decide +kernel) rfl) nMd_comesRound lMd_comesRound mMd_comesRound rfl (show decode (tC tMd_check) 125 = .ok (.invokevirtual 258, 3) by decide +kernel)) ⟨by rw [hR]; decide, by rw [hR]; decide, by rw [hR]; decide, by rw [hR]; decide⟩ (Nat.le_of_ble_eq_true rfl) ?_
      refine v_if_eq (pc := 128) 137 (show decode (tC tMd_check) 128 = .ok (.ifCond .eq 9, 3) by decide +kernel) (by decide) (fun c => ?_) (fun c => ?_)
      · replace h := ite_t c h
        refine v_iinc (pc := 137) (j := 1) [(1, .int (x1 + 1)), (0, .ref x0)] (show decode (tC tMd_check) 137 = .ok (.iinc 1 1, 3) by decide +kernel) rfl rfl (by decide) rfl ?_
        refine v_goto (pc := 140) 115 (show decode (tC tMd_check) 140 = .ok (.goto (-25), 3) by decide +kernel) (by decide) ?_
        refine v_sub [(0, .ref x0), (1, .int (x1 + 1))] [1, 0] rfl ?_
        exact ih x0 (x1 + 1) S6 h
      · replace h := ite_f c h
        refine v_aload_n (pc := 131) (show decode (tC tMd_check) 131 = .ok (.aload_n 0, 1) by decide +kernel) 0 rfl rfl ?_
        refine v_iconst (pc := 132) (v := 2) (show decode (tC tMd_check) 132 = .ok (.iconst 2, 1) by decide +kernel) (by decide) ?_
        refine v_iload_n (pc := 133) (show decode (tC tMd_check) 133 = .ok (.iload_n 1, 1) by decide +kernel) 1 rfl rfl ?_
        obtain ⟨_, e8, h⟩ := ob h
        obtain ⟨S9, e7, h⟩ := ob h
        refine v_call (pc := 134) (v := none) (y := yMd_wrong) (θ' := tMd_wrong) (rm := rMd_wrong) (av := [.ref x0, .int 2, .int x1]) (st := []) (cMd_wrong (l := gl Γ) hl e7) kMd_wrong iMd_wrong (iv_virt (y := yMd_wrong) (θ' := tMd_wrong) (kd := 12) (As := [.int 2, .int x1]) rfl (ckd_of e8) kMd_wrong (gT_in 1480 (by decide +kernel) rfl) nMd_wrong lMd_wrong mMd_wrong rfl (show decode (tC tMd_check) 134 = .ok (.invokevirtual 254, 3) by decide +kernel)) ⟨by rw [hR]; decide, by rw [hR]; decide, by rw [hR]; decide, by rw [hR]; decide⟩ (Nat.le_of_ble_eq_true rfl) ?_
        refine v_iinc (pc := 137) (j := 1) [(1, .int (x1 + 1)), (0, .ref x0)] (show decode (tC tMd_check) 137 = .ok (.iinc 1 1, 3) by decide +kernel) rfl rfl (by decide) rfl ?_
        refine v_goto (pc := 140) 115 (show decode (tC tMd_check) 140 = .ok (.goto (-25), 3) by decide +kernel) (by decide) ?_
        refine v_sub [(0, .ref x0), (1, .int (x1 + 1))] [1, 0] rfl ?_
        exact ih x0 (x1 + 1) S9 h
def fMd_check_46 (k15 : Nat → Int32 → Sx → Option (Sx)) : Nat → Nat → Int32 → Int32 → Int32 → Sx → Option (Sx)
  | 0, _, _, _, _, _ => none
  | n + 1, x0, x1, x2, x3, S =>
    (gX S 12 11 x0).bind fun v1 =>
    (aI S v1 x1).bind fun v3 =>
    if ((4 * x1) + v3) ≤ x3 then
    (if x2 = 0 then
    ((ckd S x0 12).bind fun _ =>
    (fMd_wrong x0 1 x1 S).bind fun S7 =>
    k15 x0 (x1 + 1) S7)
    else
    (k15 x0 (x1 + 1) S))
    else
    (if x2 = 0 then
    (fMd_check_46 k15 n x0 x1 0 (x3 + 1) S)
    else
    ((gX S 12 14 x0).bind fun v8 =>
    (aI S v8 x3).bind fun v10 =>
    (gI S 12 2 x0).bind fun v12 =>
    if v12 ≤ v10 then
    (fMd_check_46 k15 n x0 x1 0 (x3 + 1) S)
    else
    (fMd_check_46 k15 n x0 x1 1 (x3 + 1) S)))
set_option maxRecDepth 100000 in
set_option maxHeartbeats 4000000 in
theorem wMd_check_46 {Γ : vG} (hR : gR Γ = rMd_check) (hl : (gl Γ).flags = pinnedFlags ++ [noTraceFlag]) {X : Sx} {k15 : Nat → Int32 → Sx → Option (Sx)} (hk15 : ∀ (x0 : Nat) (x1 : Int32) (S : Sx), k15 x0 x1 S = some X → vV Γ tMd_check (mQ Γ 0 0 0 none X) S 0 0 15 [(0, .ref x0), (1, .int x1)] []) : ∀ (n : Nat) (x0 : Nat) (x1 : Int32) (x2 : Int32) (x3 : Int32) (S : Sx), fMd_check_46 k15 n x0 x1 x2 x3 S = some X → vV Γ tMd_check (mQ Γ 0 0 0 none X) S 0 0 46 [(0, .ref x0), (1, .int x1), (2, .int x2), (3, .int x3)] [] := by
  intro n
  induction n with
  | zero => intro x0 x1 x2 x3 S h; rw [fMd_check_46] at h; cases h
  | succ n ih =>
    intro x0 x1 x2 x3 S h
    rw [fMd_check_46] at h
    refine v_iload_n (pc := 46) (show decode (tC tMd_check) 46 = .ok (.iload_n 3, 1) by decide +kernel) 3 rfl rfl ?_
    refine v_iconst (pc := 47) (v := 4) (show decode (tC tMd_check) 47 = .ok (.iconst 4, 1) by decide +kernel) (by decide) ?_
    refine v_iload_n (pc := 48) (show decode (tC tMd_check) 48 = .ok (.iload_n 1, 1) by decide +kernel) 1 rfl rfl ?_
    refine v_imul (pc := 49) (show decode (tC tMd_check) 49 = .ok (.imul, 1) by decide +kernel) ?_
    refine v_aload_n (pc := 50) (show decode (tC tMd_check) 50 = .ok (.aload_n 0, 1) by decide +kernel) 0 rfl rfl ?_
    obtain ⟨v1, e2, h⟩ := ob h
    refine v_getX (pc := 51) oF_Md_19 e2 (show decode (tC tMd_check) 51 = .ok (.getfield 19, 3) by decide +kernel) ?_
    refine v_iload_n (pc := 54) (show decode (tC tMd_check) 54 = .ok (.iload_n 1, 1) by decide +kernel) 1 rfl rfl ?_
    obtain ⟨v3, e4, h⟩ := ob h
    refine v_iald (pc := 55) e4 (show decode (tC tMd_check) 55 = .ok (.iaload, 1) by decide +kernel) ?_
    refine v_iadd (pc := 56) (show decode (tC tMd_check) 56 = .ok (.iadd, 1) by decide +kernel) ?_
    refine v_icmp_ge (pc := 57) 89 (show decode (tC tMd_check) 57 = .ok (.if_icmp .ge 32, 3) by decide +kernel) (by decide) (fun c => ?_) (fun c => ?_)
    · replace h := ite_t c h
      refine v_iload_n (pc := 89) (show decode (tC tMd_check) 89 = .ok (.iload_n 2, 1) by decide +kernel) 2 rfl rfl ?_
      refine v_if_ne (pc := 90) 99 (show decode (tC tMd_check) 90 = .ok (.ifCond .ne 9, 3) by decide +kernel) (by decide) (fun c => ?_) (fun c => ?_)
      · replace h := ite_f c h
        refine v_iinc (pc := 99) (j := 1) [(1, .int (x1 + 1)), (0, .ref x0), (2, .int x2), (3, .int x3)] (show decode (tC tMd_check) 99 = .ok (.iinc 1 1, 3) by decide +kernel) rfl rfl (by decide) rfl ?_
        refine v_goto (pc := 102) 15 (show decode (tC tMd_check) 102 = .ok (.goto (-87), 3) by decide +kernel) (by decide) ?_
        refine v_sub [(0, .ref x0), (1, .int (x1 + 1))] [1, 0] rfl ?_
        exact hk15 x0 (x1 + 1) S h
      · replace h := ite_t c h
        refine v_aload_n (pc := 93) (show decode (tC tMd_check) 93 = .ok (.aload_n 0, 1) by decide +kernel) 0 rfl rfl ?_
        refine v_iconst (pc := 94) (v := 1) (show decode (tC tMd_check) 94 = .ok (.iconst 1, 1) by decide +kernel) (by decide) ?_
        refine v_iload_n (pc := 95) (show decode (tC tMd_check) 95 = .ok (.iload_n 1, 1) by decide +kernel) 1 rfl rfl ?_
        obtain ⟨_, e6, h⟩ := ob h
        obtain ⟨S7, e5, h⟩ := ob h
        refine v_call (pc := 96) (v := none) (y := yMd_wrong) (θ' := tMd_wrong) (rm := rMd_wrong) (av := [.ref x0, .int 1, .int x1]) (st := []) (cMd_wrong (l := gl Γ) hl e5) kMd_wrong iMd_wrong (iv_virt (y := yMd_wrong) (θ' := tMd_wrong) (kd := 12) (As := [.int 1, .int x1]) rfl (ckd_of e6) kMd_wrong (gT_in 1480 (by decide +kernel) rfl) nMd_wrong lMd_wrong mMd_wrong rfl (show decode (tC tMd_check) 96 = .ok (.invokevirtual 254, 3) by decide +kernel)) ⟨by rw [hR]; decide, by rw [hR]; decide, by rw [hR]; decide, by rw [hR]; decide⟩ (Nat.le_of_ble_eq_true rfl) ?_
        refine v_iinc (pc := 99) (j := 1) [(1, .int (x1 + 1)), (0, .ref x0), (2, .int x2), (3, .int x3)] (show decode (tC tMd_check) 99 = .ok (.iinc 1 1, 3) by decide +kernel) rfl rfl (by decide) rfl ?_
        refine v_goto (pc := 102) 15 (show decode (tC tMd_check) 102 = .ok (.goto (-87), 3) by decide +kernel) (by decide) ?_
        refine v_sub [(0, .ref x0), (1, .int (x1 + 1))] [1, 0] rfl ?_
        exact hk15 x0 (x1 + 1) S7 h
    · replace h := ite_f c h
      refine v_iload_n (pc := 60) (show decode (tC tMd_check) 60 = .ok (.iload_n 2, 1) by decide +kernel) 2 rfl rfl ?_
      refine v_if_eq (pc := 61) 81 (show decode (tC tMd_check) 61 = .ok (.ifCond .eq 20, 3) by decide +kernel) (by decide) (fun c => ?_) (fun c => ?_)
      · replace h := ite_t c h
        refine v_iconst (pc := 81) (v := 0) (show decode (tC tMd_check) 81 = .ok (.iconst 0, 1) by decide +kernel) (by decide) ?_
        refine v_istore_n (pc := 82) [(2, .int 0), (0, .ref x0), (1, .int x1), (3, .int x3)] (show decode (tC tMd_check) 82 = .ok (.istore_n 2, 1) by decide +kernel) rfl (by decide) rfl ?_
        refine v_iinc (pc := 83) (j := 3) [(3, .int (x3 + 1)), (2, .int 0), (0, .ref x0), (1, .int x1)] (show decode (tC tMd_check) 83 = .ok (.iinc 3 1, 3) by decide +kernel) rfl rfl (by decide) rfl ?_
        refine v_goto (pc := 86) 46 (show decode (tC tMd_check) 86 = .ok (.goto (-40), 3) by decide +kernel) (by decide) ?_
        refine v_sub [(0, .ref x0), (1, .int x1), (2, .int 0), (3, .int (x3 + 1))] [2, 3, 1, 0] rfl ?_
        exact ih x0 x1 0 (x3 + 1) S h
      · replace h := ite_f c h
        refine v_aload_n (pc := 64) (show decode (tC tMd_check) 64 = .ok (.aload_n 0, 1) by decide +kernel) 0 rfl rfl ?_
        obtain ⟨v8, e9, h⟩ := ob h
        refine v_getX (pc := 65) oF_Md_28 e9 (show decode (tC tMd_check) 65 = .ok (.getfield 28, 3) by decide +kernel) ?_
        refine v_iload_n (pc := 68) (show decode (tC tMd_check) 68 = .ok (.iload_n 3, 1) by decide +kernel) 3 rfl rfl ?_
        obtain ⟨v10, e11, h⟩ := ob h
        refine v_iald (pc := 69) e11 (show decode (tC tMd_check) 69 = .ok (.iaload, 1) by decide +kernel) ?_
        refine v_aload_n (pc := 70) (show decode (tC tMd_check) 70 = .ok (.aload_n 0, 1) by decide +kernel) 0 rfl rfl ?_
        obtain ⟨v12, e13, h⟩ := ob h
        refine v_getI (pc := 71) oF_Md_189 (by decide) e13 (show decode (tC tMd_check) 71 = .ok (.getfield 189, 3) by decide +kernel) ?_
        refine v_icmp_ge (pc := 74) 81 (show decode (tC tMd_check) 74 = .ok (.if_icmp .ge 7, 3) by decide +kernel) (by decide) (fun c => ?_) (fun c => ?_)
        · replace h := ite_t c h
          refine v_iconst (pc := 81) (v := 0) (show decode (tC tMd_check) 81 = .ok (.iconst 0, 1) by decide +kernel) (by decide) ?_
          refine v_istore_n (pc := 82) [(2, .int 0), (0, .ref x0), (1, .int x1), (3, .int x3)] (show decode (tC tMd_check) 82 = .ok (.istore_n 2, 1) by decide +kernel) rfl (by decide) rfl ?_
          refine v_iinc (pc := 83) (j := 3) [(3, .int (x3 + 1)), (2, .int 0), (0, .ref x0), (1, .int x1)] (show decode (tC tMd_check) 83 = .ok (.iinc 3 1, 3) by decide +kernel) rfl rfl (by decide) rfl ?_
          refine v_goto (pc := 86) 46 (show decode (tC tMd_check) 86 = .ok (.goto (-40), 3) by decide +kernel) (by decide) ?_
          refine v_sub [(0, .ref x0), (1, .int x1), (2, .int 0), (3, .int (x3 + 1))] [2, 3, 1, 0] rfl ?_
          exact ih x0 x1 0 (x3 + 1) S h
        · replace h := ite_f c h
          refine v_iconst (pc := 77) (v := 1) (show decode (tC tMd_check) 77 = .ok (.iconst 1, 1) by decide +kernel) (by decide) ?_
          refine v_goto (pc := 78) 82 (show decode (tC tMd_check) 78 = .ok (.goto 4, 3) by decide +kernel) (by decide) ?_
          refine v_istore_n (pc := 82) [(2, .int 1), (0, .ref x0), (1, .int x1), (3, .int x3)] (show decode (tC tMd_check) 82 = .ok (.istore_n 2, 1) by decide +kernel) rfl (by decide) rfl ?_
          refine v_iinc (pc := 83) (j := 3) [(3, .int (x3 + 1)), (2, .int 1), (0, .ref x0), (1, .int x1)] (show decode (tC tMd_check) 83 = .ok (.iinc 3 1, 3) by decide +kernel) rfl rfl (by decide) rfl ?_
          refine v_goto (pc := 86) 46 (show decode (tC tMd_check) 86 = .ok (.goto (-40), 3) by decide +kernel) (by decide) ?_
          refine v_sub [(0, .ref x0), (1, .int x1), (2, .int 1), (3, .int (x3 + 1))] [2, 3, 1, 0] rfl ?_
          exact ih x0 x1 1 (x3 + 1) S h
def fMd_check_15  : Nat → Nat → Int32 → Sx → Option (Sx)
  | 0, _, _, _ => none
  | n + 1, x0, x1, S =>
    (gI S 12 2 x0).bind fun v1 =>
    if v1 ≤ x1 then
    ((gI S 12 33 x0).bind fun v3 =>
    if v3 ≤ 0 then
    (fMd_check_115  fuel x0 0 S)
    else
    (some S))
    else
    ((gX S 12 15 x0).bind fun v5 =>
    (aI S v5 x1).bind fun v7 =>
    (gI S 12 2 x0).bind fun v9 =>
    if v9 ≤ v7 then
    (fMd_check_46 (fun y0 y1 T => fMd_check_15 n y0 y1 T) fuel x0 x1 0 (4 * x1) S)
    else
    (fMd_check_46 (fun y0 y1 T => fMd_check_15 n y0 y1 T) fuel x0 x1 1 (4 * x1) S))
set_option maxRecDepth 100000 in
set_option maxHeartbeats 4000000 in
theorem wMd_check_15 {Γ : vG} (hR : gR Γ = rMd_check) (hl : (gl Γ).flags = pinnedFlags ++ [noTraceFlag]) {X : Sx}  : ∀ (n : Nat) (x0 : Nat) (x1 : Int32) (S : Sx), fMd_check_15  n x0 x1 S = some X → vV Γ tMd_check (mQ Γ 0 0 0 none X) S 0 0 15 [(0, .ref x0), (1, .int x1)] [] := by
  intro n
  induction n with
  | zero => intro x0 x1 S h; rw [fMd_check_15] at h; cases h
  | succ n ih =>
    intro x0 x1 S h
    rw [fMd_check_15] at h
    refine v_iload_n (pc := 15) (show decode (tC tMd_check) 15 = .ok (.iload_n 1, 1) by decide +kernel) 1 rfl rfl ?_
    refine v_aload_n (pc := 16) (show decode (tC tMd_check) 16 = .ok (.aload_n 0, 1) by decide +kernel) 0 rfl rfl ?_
    obtain ⟨v1, e2, h⟩ := ob h
    refine v_getI (pc := 17) oF_Md_189 (by decide) e2 (show decode (tC tMd_check) 17 = .ok (.getfield 189, 3) by decide +kernel) ?_
    refine v_icmp_ge (pc := 20) 105 (show decode (tC tMd_check) 20 = .ok (.if_icmp .ge 85, 3) by decide +kernel) (by decide) (fun c => ?_) (fun c => ?_)
    · replace h := ite_t c h
      refine v_aload_n (pc := 105) (show decode (tC tMd_check) 105 = .ok (.aload_n 0, 1) by decide +kernel) 0 rfl rfl ?_
      obtain ⟨v3, e4, h⟩ := ob h
      refine v_getI (pc := 106) oF_Md_208 (by decide) e4 (show decode (tC tMd_check) 106 = .ok (.getfield 208, 3) by decide +kernel) ?_
      refine v_if_le (pc := 109) 113 (show decode (tC tMd_check) 109 = .ok (.ifCond .le 4, 3) by decide +kernel) (by decide) (fun c => ?_) (fun c => ?_)
      · replace h := ite_t c h
        refine v_iconst (pc := 113) (v := 0) (show decode (tC tMd_check) 113 = .ok (.iconst 0, 1) by decide +kernel) (by decide) ?_
        refine v_istore_n (pc := 114) [(1, .int 0), (0, .ref x0)] (show decode (tC tMd_check) 114 = .ok (.istore_n 1, 1) by decide +kernel) rfl (by decide) rfl ?_
        refine v_sub [(0, .ref x0), (1, .int 0)] [1, 0] rfl ?_
        exact wMd_check_115 hR hl  fuel x0 0 S h
      · replace h := ite_f c h
        obtain rfl := Option.some.inj h
        refine v_wide (ce2 := 0) (sl2 := 0) (by decide) (by decide) ?_
        exact v_vret (pc := 112) rfl (show decode (tC tMd_check) 112 = .ok (.return_, 1) by decide +kernel)
    · replace h := ite_f c h
      refine v_aload_n (pc := 23) (show decode (tC tMd_check) 23 = .ok (.aload_n 0, 1) by decide +kernel) 0 rfl rfl ?_
      obtain ⟨v5, e6, h⟩ := ob h
      refine v_getX (pc := 24) oF_Md_31 e6 (show decode (tC tMd_check) 24 = .ok (.getfield 31, 3) by decide +kernel) ?_
      refine v_iload_n (pc := 27) (show decode (tC tMd_check) 27 = .ok (.iload_n 1, 1) by decide +kernel) 1 rfl rfl ?_
      obtain ⟨v7, e8, h⟩ := ob h
      refine v_iald (pc := 28) e8 (show decode (tC tMd_check) 28 = .ok (.iaload, 1) by decide +kernel) ?_
      refine v_aload_n (pc := 29) (show decode (tC tMd_check) 29 = .ok (.aload_n 0, 1) by decide +kernel) 0 rfl rfl ?_
      obtain ⟨v9, e10, h⟩ := ob h
      refine v_getI (pc := 30) oF_Md_189 (by decide) e10 (show decode (tC tMd_check) 30 = .ok (.getfield 189, 3) by decide +kernel) ?_
      refine v_icmp_ge (pc := 33) 40 (show decode (tC tMd_check) 33 = .ok (.if_icmp .ge 7, 3) by decide +kernel) (by decide) (fun c => ?_) (fun c => ?_)
      · replace h := ite_t c h
        refine v_iconst (pc := 40) (v := 0) (show decode (tC tMd_check) 40 = .ok (.iconst 0, 1) by decide +kernel) (by decide) ?_
        refine v_istore_n (pc := 41) [(2, .int 0), (0, .ref x0), (1, .int x1)] (show decode (tC tMd_check) 41 = .ok (.istore_n 2, 1) by decide +kernel) rfl (by decide) rfl ?_
        refine v_iconst (pc := 42) (v := 4) (show decode (tC tMd_check) 42 = .ok (.iconst 4, 1) by decide +kernel) (by decide) ?_
        refine v_iload_n (pc := 43) (show decode (tC tMd_check) 43 = .ok (.iload_n 1, 1) by decide +kernel) 2 rfl rfl ?_
        refine v_imul (pc := 44) (show decode (tC tMd_check) 44 = .ok (.imul, 1) by decide +kernel) ?_
        refine v_istore_n (pc := 45) [(3, .int (4 * x1)), (2, .int 0), (0, .ref x0), (1, .int x1)] (show decode (tC tMd_check) 45 = .ok (.istore_n 3, 1) by decide +kernel) rfl (by decide) rfl ?_
        refine v_sub [(0, .ref x0), (1, .int x1), (2, .int 0), (3, .int (4 * x1))] [2, 3, 1, 0] rfl ?_
        exact wMd_check_46 hR hl (fun y0 y1 T h => ih y0 y1 T h) fuel x0 x1 0 (4 * x1) S h
      · replace h := ite_f c h
        refine v_iconst (pc := 36) (v := 1) (show decode (tC tMd_check) 36 = .ok (.iconst 1, 1) by decide +kernel) (by decide) ?_
        refine v_goto (pc := 37) 41 (show decode (tC tMd_check) 37 = .ok (.goto 4, 3) by decide +kernel) (by decide) ?_
        refine v_istore_n (pc := 41) [(2, .int 1), (0, .ref x0), (1, .int x1)] (show decode (tC tMd_check) 41 = .ok (.istore_n 2, 1) by decide +kernel) rfl (by decide) rfl ?_
        refine v_iconst (pc := 42) (v := 4) (show decode (tC tMd_check) 42 = .ok (.iconst 4, 1) by decide +kernel) (by decide) ?_
        refine v_iload_n (pc := 43) (show decode (tC tMd_check) 43 = .ok (.iload_n 1, 1) by decide +kernel) 2 rfl rfl ?_
        refine v_imul (pc := 44) (show decode (tC tMd_check) 44 = .ok (.imul, 1) by decide +kernel) ?_
        refine v_istore_n (pc := 45) [(3, .int (4 * x1)), (2, .int 1), (0, .ref x0), (1, .int x1)] (show decode (tC tMd_check) 45 = .ok (.istore_n 3, 1) by decide +kernel) rfl (by decide) rfl ?_
        refine v_sub [(0, .ref x0), (1, .int x1), (2, .int 1), (3, .int (4 * x1))] [2, 3, 1, 0] rfl ?_
        exact wMd_check_46 hR hl (fun y0 y1 T h => ih y0 y1 T h) fuel x0 x1 1 (4 * x1) S h
def fMd_check (x0 : Nat) (S : Sx) : Option (Sx) :=
    (gI S 12 2 x0).bind fun v1 =>
    if v1 = 0 then
    ((ckd S x0 12).bind fun _ =>
    (fMd_wrong x0 1 0 S).bind fun S5 =>
    fMd_check_15  fuel x0 0 S5)
    else
    (fMd_check_15  fuel x0 0 S)
set_option maxRecDepth 100000 in
set_option maxHeartbeats 4000000 in
theorem wMd_check {Γ : vG} (hR : gR Γ = rMd_check) (hl : (gl Γ).flags = pinnedFlags ++ [noTraceFlag]) (x0 : Nat) (S : Sx) {X : Sx} (h : fMd_check x0 S = some X) : vV Γ tMd_check (mQ Γ 0 0 0 none X) S 0 0 0 [(0, .ref x0)] [] := by
  unfold fMd_check at h
  refine v_aload_n (pc := 0) (show decode (tC tMd_check) 0 = .ok (.aload_n 0, 1) by decide +kernel) 0 rfl rfl ?_
  obtain ⟨v1, e2, h⟩ := ob h
  refine v_getI (pc := 1) oF_Md_189 (by decide) e2 (show decode (tC tMd_check) 1 = .ok (.getfield 189, 3) by decide +kernel) ?_
  refine v_if_ne (pc := 4) 13 (show decode (tC tMd_check) 4 = .ok (.ifCond .ne 9, 3) by decide +kernel) (by decide) (fun c => ?_) (fun c => ?_)
  · replace h := ite_f c h
    refine v_iconst (pc := 13) (v := 0) (show decode (tC tMd_check) 13 = .ok (.iconst 0, 1) by decide +kernel) (by decide) ?_
    refine v_istore_n (pc := 14) [(1, .int 0), (0, .ref x0)] (show decode (tC tMd_check) 14 = .ok (.istore_n 1, 1) by decide +kernel) rfl (by decide) rfl ?_
    refine v_sub [(0, .ref x0), (1, .int 0)] [1, 0] rfl ?_
    exact wMd_check_15 hR hl  fuel x0 0 S h
  · replace h := ite_t c h
    refine v_aload_n (pc := 7) (show decode (tC tMd_check) 7 = .ok (.aload_n 0, 1) by decide +kernel) 0 rfl rfl ?_
    refine v_iconst (pc := 8) (v := 1) (show decode (tC tMd_check) 8 = .ok (.iconst 1, 1) by decide +kernel) (by decide) ?_
    refine v_iconst (pc := 9) (v := 0) (show decode (tC tMd_check) 9 = .ok (.iconst 0, 1) by decide +kernel) (by decide) ?_
    obtain ⟨_, e4, h⟩ := ob h
    obtain ⟨S5, e3, h⟩ := ob h
    refine v_call (pc := 10) (v := none) (y := yMd_wrong) (θ' := tMd_wrong) (rm := rMd_wrong) (av := [.ref x0, .int 1, .int 0]) (st := []) (cMd_wrong (l := gl Γ) hl e3) kMd_wrong iMd_wrong (iv_virt (y := yMd_wrong) (θ' := tMd_wrong) (kd := 12) (As := [.int 1, .int 0]) rfl (ckd_of e4) kMd_wrong (gT_in 1480 (by decide +kernel) rfl) nMd_wrong lMd_wrong mMd_wrong rfl (show decode (tC tMd_check) 10 = .ok (.invokevirtual 254, 3) by decide +kernel)) ⟨by rw [hR]; decide, by rw [hR]; decide, by rw [hR]; decide, by rw [hR]; decide⟩ (Nat.le_of_ble_eq_true rfl) ?_
    refine v_iconst (pc := 13) (v := 0) (show decode (tC tMd_check) 13 = .ok (.iconst 0, 1) by decide +kernel) (by decide) ?_
    refine v_istore_n (pc := 14) [(1, .int 0), (0, .ref x0)] (show decode (tC tMd_check) 14 = .ok (.istore_n 1, 1) by decide +kernel) rfl (by decide) rfl ?_
    refine v_sub [(0, .ref x0), (1, .int 0)] [1, 0] rfl ?_
    exact wMd_check_15 hR hl  fuel x0 0 S5 h
theorem cMd_check {l : Launch} (hl : l.flags = pinnedFlags ++ [noTraceFlag]) {D : va_G} {dA : Nat → ClassId} {B : Nat} {x0 : Nat} {S : Sx} {X : Sx} (h : fMd_check x0 S = some X) : Mx l yMd_check tMd_check rMd_check 0 0 D dA B S [.ref x0] 0 none X :=
  mx_of hl (by decide) rfl rfl (Nat.le_of_ble_eq_true rfl) (fun Γ e1 e2 e3 e4 e5 => by subst e1; subst e3; subst e4; subst e5; exact wMd_check e2 hl x0 S h)
/-! MatchPipeModel.reads(I)I -/
def yMd_reads : MethodName := ⟨"MatchPipeModel", "reads", "(I)I"⟩
def tMd_reads : tM := (prog_14_method_15_code, "MatchPipeModel", 6, "reads", some .int, [])
def rMd_reads : Room := { frames := 0, cells := 0, slots := 0, locals := 0 }
theorem kMd_reads : cOf yMd_reads tMd_reads ∈ gT := gT_in 1503 (by decide +kernel) rfl
theorem iMd_reads : Cond.initialized yMd_reads.cls ∈ gT := gT_in 68 (by decide +kernel) rfl
theorem mMd_reads : okM yMd_reads 1 := ⟨by decide, by decide, by unfold nPar; decide +kernel⟩
theorem nMd_reads : Cond.instanceMethod yMd_reads ∈ gT := gT_in 1502 (by decide +kernel) rfl
theorem lMd_reads : Cond.selects "MatchPipeModel" yMd_reads yMd_reads ∈ gT := gT_in 31 (by decide +kernel) rfl
def fMd_reads_145 (k67 : Nat → Int32 → Int32 → Int32 → Int32 → Sx → Option (Int32 × Sx)) (x0 : Nat) (x2 : Int32) (x3 : Int32) (x4 : Int32) (x5 : Int32) (S : Sx) : Option (Int32 × Sx) :=
    (gX S 12 17 x0).bind fun v1 =>
    (aI S v1 x5).bind fun v3 =>
    if v3 = 2 then
    ((gX S 12 18 x0).bind fun v5 =>
    (aI S v5 x5).bind fun v7 =>
    k67 x0 x2 (x3 ||| (1 <<< (v7 &&& 31))) x4 (x5 + 1) S)
    else
    (k67 x0 x2 x3 x4 (x5 + 1) S)
set_option maxRecDepth 100000 in
set_option maxHeartbeats 4000000 in
theorem wMd_reads_145 {Γ : vG} (hR : gR Γ = rMd_reads) (hl : (gl Γ).flags = pinnedFlags ++ [noTraceFlag]) {X : Int32 × Sx} {k67 : Nat → Int32 → Int32 → Int32 → Int32 → Sx → Option (Int32 × Sx)} (hk67 : ∀ (x0 : Nat) (x2 : Int32) (x3 : Int32) (x4 : Int32) (x5 : Int32) (S : Sx), k67 x0 x2 x3 x4 x5 S = some X → vV Γ tMd_reads (mQ Γ 0 0 0 (some (.int X.1)) X.2) S 0 0 67 [(0, .ref x0), (2, .int x2), (3, .int x3), (4, .int x4), (5, .int x5)] []) : ∀ (x0 : Nat) (x2 : Int32) (x3 : Int32) (x4 : Int32) (x5 : Int32) (S : Sx), fMd_reads_145 k67 x0 x2 x3 x4 x5 S = some X → vV Γ tMd_reads (mQ Γ 0 0 0 (some (.int X.1)) X.2) S 0 0 145 [(0, .ref x0), (2, .int x2), (3, .int x3), (4, .int x4), (5, .int x5)] [] := by
  intro x0 x2 x3 x4 x5 S h
  unfold fMd_reads_145 at h
  refine v_aload_n (pc := 145) (show decode (tC tMd_reads) 145 = .ok (.aload_n 0, 1) by decide +kernel) 0 rfl rfl ?_
  obtain ⟨v1, e2, h⟩ := ob h
  refine v_getX (pc := 146) oF_Md_37 e2 (show decode (tC tMd_reads) 146 = .ok (.getfield 37, 3) by decide +kernel) ?_
  refine v_iload (pc := 149) (show decode (tC tMd_reads) 149 = .ok (.iload 5, 2) by decide +kernel) 4 rfl ?_
  obtain ⟨v3, e4, h⟩ := ob h
  refine v_iald (pc := 151) e4 (show decode (tC tMd_reads) 151 = .ok (.iaload, 1) by decide +kernel) ?_
  refine v_iconst (pc := 152) (v := 2) (show decode (tC tMd_reads) 152 = .ok (.iconst 2, 1) by decide +kernel) (by decide) ?_
  refine v_icmp_ne (pc := 153) 168 (show decode (tC tMd_reads) 153 = .ok (.if_icmp .ne 15, 3) by decide +kernel) (by decide) (fun c => ?_) (fun c => ?_)
  · replace h := ite_f c h
    refine v_iinc (pc := 168) (j := 4) [(5, .int (x5 + 1)), (0, .ref x0), (2, .int x2), (3, .int x3), (4, .int x4)] (show decode (tC tMd_reads) 168 = .ok (.iinc 5 1, 3) by decide +kernel) rfl rfl (by decide) rfl ?_
    refine v_goto (pc := 171) 67 (show decode (tC tMd_reads) 171 = .ok (.goto (-104), 3) by decide +kernel) (by decide) ?_
    refine v_sub [(0, .ref x0), (2, .int x2), (3, .int x3), (4, .int x4), (5, .int (x5 + 1))] [1, 2, 3, 4, 0] rfl ?_
    exact hk67 x0 x2 x3 x4 (x5 + 1) S h
  · replace h := ite_t c h
    refine v_iload_n (pc := 156) (show decode (tC tMd_reads) 156 = .ok (.iload_n 3, 1) by decide +kernel) 2 rfl rfl ?_
    refine v_iconst (pc := 157) (v := 1) (show decode (tC tMd_reads) 157 = .ok (.iconst 1, 1) by decide +kernel) (by decide) ?_
    refine v_aload_n (pc := 158) (show decode (tC tMd_reads) 158 = .ok (.aload_n 0, 1) by decide +kernel) 0 rfl rfl ?_
    obtain ⟨v5, e6, h⟩ := ob h
    refine v_getX (pc := 159) oF_Md_40 e6 (show decode (tC tMd_reads) 159 = .ok (.getfield 40, 3) by decide +kernel) ?_
    refine v_iload (pc := 162) (show decode (tC tMd_reads) 162 = .ok (.iload 5, 2) by decide +kernel) 4 rfl ?_
    obtain ⟨v7, e8, h⟩ := ob h
    refine v_iald (pc := 164) e8 (show decode (tC tMd_reads) 164 = .ok (.iaload, 1) by decide +kernel) ?_
    refine v_ishl (pc := 165) (show decode (tC tMd_reads) 165 = .ok (.ishl, 1) by decide +kernel) ?_
    refine v_ior (pc := 166) (show decode (tC tMd_reads) 166 = .ok (.ior, 1) by decide +kernel) ?_
    refine v_istore_n (pc := 167) [(3, .int (x3 ||| (1 <<< (v7 &&& 31)))), (0, .ref x0), (2, .int x2), (4, .int x4), (5, .int x5)] (show decode (tC tMd_reads) 167 = .ok (.istore_n 3, 1) by decide +kernel) rfl (by decide) rfl ?_
    refine v_iinc (pc := 168) (j := 4) [(5, .int (x5 + 1)), (3, .int (x3 ||| (1 <<< (v7 &&& 31)))), (0, .ref x0), (2, .int x2), (4, .int x4)] (show decode (tC tMd_reads) 168 = .ok (.iinc 5 1, 3) by decide +kernel) rfl rfl (by decide) rfl ?_
    refine v_goto (pc := 171) 67 (show decode (tC tMd_reads) 171 = .ok (.goto (-104), 3) by decide +kernel) (by decide) ?_
    refine v_sub [(0, .ref x0), (2, .int x2), (3, .int (x3 ||| (1 <<< (v7 &&& 31)))), (4, .int x4), (5, .int (x5 + 1))] [2, 3, 1, 4, 0] rfl ?_
    exact hk67 x0 x2 (x3 ||| (1 <<< (v7 &&& 31))) x4 (x5 + 1) S h
def fMd_reads_133 (k67 : Nat → Int32 → Int32 → Int32 → Int32 → Sx → Option (Int32 × Sx)) (x0 : Nat) (x2 : Int32) (x3 : Int32) (x4 : Int32) (x5 : Int32) (S : Sx) : Option (Int32 × Sx) :=
    (gX S 12 19 x0).bind fun v1 =>
    (aI S v1 x5).bind fun v3 =>
    fMd_reads_145 k67 x0 x2 (x3 ||| (1 <<< (v3 &&& 31))) x4 x5 S
set_option maxRecDepth 100000 in
set_option maxHeartbeats 4000000 in
theorem wMd_reads_133 {Γ : vG} (hR : gR Γ = rMd_reads) (hl : (gl Γ).flags = pinnedFlags ++ [noTraceFlag]) {X : Int32 × Sx} {k67 : Nat → Int32 → Int32 → Int32 → Int32 → Sx → Option (Int32 × Sx)} (hk67 : ∀ (x0 : Nat) (x2 : Int32) (x3 : Int32) (x4 : Int32) (x5 : Int32) (S : Sx), k67 x0 x2 x3 x4 x5 S = some X → vV Γ tMd_reads (mQ Γ 0 0 0 (some (.int X.1)) X.2) S 0 0 67 [(0, .ref x0), (2, .int x2), (3, .int x3), (4, .int x4), (5, .int x5)] []) : ∀ (x0 : Nat) (x2 : Int32) (x3 : Int32) (x4 : Int32) (x5 : Int32) (S : Sx), fMd_reads_133 k67 x0 x2 x3 x4 x5 S = some X → vV Γ tMd_reads (mQ Γ 0 0 0 (some (.int X.1)) X.2) S 0 0 133 [(0, .ref x0), (2, .int x2), (3, .int x3), (4, .int x4), (5, .int x5)] [] := by
  intro x0 x2 x3 x4 x5 S h
  unfold fMd_reads_133 at h
  refine v_iload_n (pc := 133) (show decode (tC tMd_reads) 133 = .ok (.iload_n 3, 1) by decide +kernel) 2 rfl rfl ?_
  refine v_iconst (pc := 134) (v := 1) (show decode (tC tMd_reads) 134 = .ok (.iconst 1, 1) by decide +kernel) (by decide) ?_
  refine v_aload_n (pc := 135) (show decode (tC tMd_reads) 135 = .ok (.aload_n 0, 1) by decide +kernel) 0 rfl rfl ?_
  obtain ⟨v1, e2, h⟩ := ob h
  refine v_getX (pc := 136) oF_Md_43 e2 (show decode (tC tMd_reads) 136 = .ok (.getfield 43, 3) by decide +kernel) ?_
  refine v_iload (pc := 139) (show decode (tC tMd_reads) 139 = .ok (.iload 5, 2) by decide +kernel) 4 rfl ?_
  obtain ⟨v3, e4, h⟩ := ob h
  refine v_iald (pc := 141) e4 (show decode (tC tMd_reads) 141 = .ok (.iaload, 1) by decide +kernel) ?_
  refine v_ishl (pc := 142) (show decode (tC tMd_reads) 142 = .ok (.ishl, 1) by decide +kernel) ?_
  refine v_ior (pc := 143) (show decode (tC tMd_reads) 143 = .ok (.ior, 1) by decide +kernel) ?_
  refine v_istore_n (pc := 144) [(3, .int (x3 ||| (1 <<< (v3 &&& 31)))), (0, .ref x0), (2, .int x2), (4, .int x4), (5, .int x5)] (show decode (tC tMd_reads) 144 = .ok (.istore_n 3, 1) by decide +kernel) rfl (by decide) rfl ?_
  refine v_sub [(0, .ref x0), (2, .int x2), (3, .int (x3 ||| (1 <<< (v3 &&& 31)))), (4, .int x4), (5, .int x5)] [1, 2, 0, 3, 4] rfl ?_
  exact wMd_reads_145 hR hl hk67 x0 x2 (x3 ||| (1 <<< (v3 &&& 31))) x4 x5 S h
def fMd_reads_67 (k52 : Nat → Int32 → Int32 → Int32 → Sx → Option (Int32 × Sx)) : Nat → Nat → Int32 → Int32 → Int32 → Int32 → Sx → Option (Int32 × Sx)
  | 0, _, _, _, _, _, _ => none
  | n + 1, x0, x2, x3, x4, x5, S =>
    (gX S 12 16 x0).bind fun v1 =>
    (aI S v1 x4).bind fun v3 =>
    if ((4 * x4) + v3) ≤ x5 then
    (k52 x0 x2 x3 (x4 + 1) S)
    else
    ((gX S 12 25 x0).bind fun v5 =>
    (aI S v5 x2).bind fun v7 =>
    if ((v7 >>> (x4 &&& 31)) &&& 1) = 1 then
    ((gX S 12 17 x0).bind fun v9 =>
    (aI S v9 x5).bind fun v11 =>
    if v11 = 1 then
    (fMd_reads_133 (fun y0 y2 y3 y4 y5 T => fMd_reads_67 k52 n y0 y2 y3 y4 y5 T) x0 x2 x3 x4 x5 S)
    else
    ((gX S 12 17 x0).bind fun v13 =>
    (aI S v13 x5).bind fun v15 =>
    if v15 = 2 then
    (fMd_reads_133 (fun y0 y2 y3 y4 y5 T => fMd_reads_67 k52 n y0 y2 y3 y4 y5 T) x0 x2 x3 x4 x5 S)
    else
    ((gX S 12 17 x0).bind fun v17 =>
    (aI S v17 x5).bind fun v19 =>
    if v19 ≤ 6 then
    (fMd_reads_145 (fun y0 y2 y3 y4 y5 T => fMd_reads_67 k52 n y0 y2 y3 y4 y5 T) x0 x2 x3 x4 x5 S)
    else
    (fMd_reads_133 (fun y0 y2 y3 y4 y5 T => fMd_reads_67 k52 n y0 y2 y3 y4 y5 T) x0 x2 x3 x4 x5 S))))
    else
    (k52 x0 x2 x3 (x4 + 1) S))
set_option maxRecDepth 100000 in
set_option maxHeartbeats 4000000 in
theorem wMd_reads_67 {Γ : vG} (hR : gR Γ = rMd_reads) (hl : (gl Γ).flags = pinnedFlags ++ [noTraceFlag]) {X : Int32 × Sx} {k52 : Nat → Int32 → Int32 → Int32 → Sx → Option (Int32 × Sx)} (hk52 : ∀ (x0 : Nat) (x2 : Int32) (x3 : Int32) (x4 : Int32) (S : Sx), k52 x0 x2 x3 x4 S = some X → vV Γ tMd_reads (mQ Γ 0 0 0 (some (.int X.1)) X.2) S 0 0 52 [(0, .ref x0), (2, .int x2), (3, .int x3), (4, .int x4)] []) : ∀ (n : Nat) (x0 : Nat) (x2 : Int32) (x3 : Int32) (x4 : Int32) (x5 : Int32) (S : Sx), fMd_reads_67 k52 n x0 x2 x3 x4 x5 S = some X → vV Γ tMd_reads (mQ Γ 0 0 0 (some (.int X.1)) X.2) S 0 0 67 [(0, .ref x0), (2, .int x2), (3, .int x3), (4, .int x4), (5, .int x5)] [] := by
  intro n
  induction n with
  | zero => intro x0 x2 x3 x4 x5 S h; rw [fMd_reads_67] at h; cases h
  | succ n ih =>
    intro x0 x2 x3 x4 x5 S h
    rw [fMd_reads_67] at h
    refine v_iload (pc := 67) (show decode (tC tMd_reads) 67 = .ok (.iload 5, 2) by decide +kernel) 4 rfl ?_
    refine v_iconst (pc := 69) (v := 4) (show decode (tC tMd_reads) 69 = .ok (.iconst 4, 1) by decide +kernel) (by decide) ?_
    refine v_iload (pc := 70) (show decode (tC tMd_reads) 70 = .ok (.iload 4, 2) by decide +kernel) 3 rfl ?_
    refine v_imul (pc := 72) (show decode (tC tMd_reads) 72 = .ok (.imul, 1) by decide +kernel) ?_
    refine v_aload_n (pc := 73) (show decode (tC tMd_reads) 73 = .ok (.aload_n 0, 1) by decide +kernel) 0 rfl rfl ?_
    obtain ⟨v1, e2, h⟩ := ob h
    refine v_getX (pc := 74) oF_Md_34 e2 (show decode (tC tMd_reads) 74 = .ok (.getfield 34, 3) by decide +kernel) ?_
    refine v_iload (pc := 77) (show decode (tC tMd_reads) 77 = .ok (.iload 4, 2) by decide +kernel) 3 rfl ?_
    obtain ⟨v3, e4, h⟩ := ob h
    refine v_iald (pc := 79) e4 (show decode (tC tMd_reads) 79 = .ok (.iaload, 1) by decide +kernel) ?_
    refine v_iadd (pc := 80) (show decode (tC tMd_reads) 80 = .ok (.iadd, 1) by decide +kernel) ?_
    refine v_icmp_ge (pc := 81) 174 (show decode (tC tMd_reads) 81 = .ok (.if_icmp .ge 93, 3) by decide +kernel) (by decide) (fun c => ?_) (fun c => ?_)
    · replace h := ite_t c h
      refine v_iinc (pc := 174) (j := 3) [(4, .int (x4 + 1)), (0, .ref x0), (2, .int x2), (3, .int x3), (5, .int x5)] (show decode (tC tMd_reads) 174 = .ok (.iinc 4 1, 3) by decide +kernel) rfl rfl (by decide) rfl ?_
      refine v_goto (pc := 177) 52 (show decode (tC tMd_reads) 177 = .ok (.goto (-125), 3) by decide +kernel) (by decide) ?_
      refine v_sub [(0, .ref x0), (2, .int x2), (3, .int x3), (4, .int (x4 + 1))] [1, 2, 3, 0] rfl ?_
      exact hk52 x0 x2 x3 (x4 + 1) S h
    · replace h := ite_f c h
      refine v_aload_n (pc := 84) (show decode (tC tMd_reads) 84 = .ok (.aload_n 0, 1) by decide +kernel) 0 rfl rfl ?_
      obtain ⟨v5, e6, h⟩ := ob h
      refine v_getX (pc := 85) oF_Md_61 e6 (show decode (tC tMd_reads) 85 = .ok (.getfield 61, 3) by decide +kernel) ?_
      refine v_iload_n (pc := 88) (show decode (tC tMd_reads) 88 = .ok (.iload_n 2, 1) by decide +kernel) 1 rfl rfl ?_
      obtain ⟨v7, e8, h⟩ := ob h
      refine v_iald (pc := 89) e8 (show decode (tC tMd_reads) 89 = .ok (.iaload, 1) by decide +kernel) ?_
      refine v_iload (pc := 90) (show decode (tC tMd_reads) 90 = .ok (.iload 4, 2) by decide +kernel) 3 rfl ?_
      refine v_ishr (pc := 92) (show decode (tC tMd_reads) 92 = .ok (.ishr, 1) by decide +kernel) ?_
      refine v_iconst (pc := 93) (v := 1) (show decode (tC tMd_reads) 93 = .ok (.iconst 1, 1) by decide +kernel) (by decide) ?_
      refine v_iand (pc := 94) (show decode (tC tMd_reads) 94 = .ok (.iand, 1) by decide +kernel) ?_
      refine v_iconst (pc := 95) (v := 1) (show decode (tC tMd_reads) 95 = .ok (.iconst 1, 1) by decide +kernel) (by decide) ?_
      refine v_icmp_ne (pc := 96) 174 (show decode (tC tMd_reads) 96 = .ok (.if_icmp .ne 78, 3) by decide +kernel) (by decide) (fun c => ?_) (fun c => ?_)
      · replace h := ite_f c h
        refine v_iinc (pc := 174) (j := 3) [(4, .int (x4 + 1)), (0, .ref x0), (2, .int x2), (3, .int x3), (5, .int x5)] (show decode (tC tMd_reads) 174 = .ok (.iinc 4 1, 3) by decide +kernel) rfl rfl (by decide) rfl ?_
        refine v_goto (pc := 177) 52 (show decode (tC tMd_reads) 177 = .ok (.goto (-125), 3) by decide +kernel) (by decide) ?_
        refine v_sub [(0, .ref x0), (2, .int x2), (3, .int x3), (4, .int (x4 + 1))] [1, 2, 3, 0] rfl ?_
        exact hk52 x0 x2 x3 (x4 + 1) S h
      · replace h := ite_t c h
        refine v_aload_n (pc := 99) (show decode (tC tMd_reads) 99 = .ok (.aload_n 0, 1) by decide +kernel) 0 rfl rfl ?_
        obtain ⟨v9, e10, h⟩ := ob h
        refine v_getX (pc := 100) oF_Md_37 e10 (show decode (tC tMd_reads) 100 = .ok (.getfield 37, 3) by decide +kernel) ?_
        refine v_iload (pc := 103) (show decode (tC tMd_reads) 103 = .ok (.iload 5, 2) by decide +kernel) 4 rfl ?_
        obtain ⟨v11, e12, h⟩ := ob h
        refine v_iald (pc := 105) e12 (show decode (tC tMd_reads) 105 = .ok (.iaload, 1) by decide +kernel) ?_
        refine v_iconst (pc := 106) (v := 1) (show decode (tC tMd_reads) 106 = .ok (.iconst 1, 1) by decide +kernel) (by decide) ?_
        refine v_icmp_eq (pc := 107) 133 (show decode (tC tMd_reads) 107 = .ok (.if_icmp .eq 26, 3) by decide +kernel) (by decide) (fun c => ?_) (fun c => ?_)
        · replace h := ite_t c h
          exact wMd_reads_133 hR hl (fun y0 y2 y3 y4 y5 T h => ih y0 y2 y3 y4 y5 T h) x0 x2 x3 x4 x5 S h
        · replace h := ite_f c h
          refine v_aload_n (pc := 110) (show decode (tC tMd_reads) 110 = .ok (.aload_n 0, 1) by decide +kernel) 0 rfl rfl ?_
          obtain ⟨v13, e14, h⟩ := ob h
          refine v_getX (pc := 111) oF_Md_37 e14 (show decode (tC tMd_reads) 111 = .ok (.getfield 37, 3) by decide +kernel) ?_
          refine v_iload (pc := 114) (show decode (tC tMd_reads) 114 = .ok (.iload 5, 2) by decide +kernel) 4 rfl ?_
          obtain ⟨v15, e16, h⟩ := ob h
          refine v_iald (pc := 116) e16 (show decode (tC tMd_reads) 116 = .ok (.iaload, 1) by decide +kernel) ?_
          refine v_iconst (pc := 117) (v := 2) (show decode (tC tMd_reads) 117 = .ok (.iconst 2, 1) by decide +kernel) (by decide) ?_
          refine v_icmp_eq (pc := 118) 133 (show decode (tC tMd_reads) 118 = .ok (.if_icmp .eq 15, 3) by decide +kernel) (by decide) (fun c => ?_) (fun c => ?_)
          · replace h := ite_t c h
            exact wMd_reads_133 hR hl (fun y0 y2 y3 y4 y5 T h => ih y0 y2 y3 y4 y5 T h) x0 x2 x3 x4 x5 S h
          · replace h := ite_f c h
            refine v_aload_n (pc := 121) (show decode (tC tMd_reads) 121 = .ok (.aload_n 0, 1) by decide +kernel) 0 rfl rfl ?_
            obtain ⟨v17, e18, h⟩ := ob h
            refine v_getX (pc := 122) oF_Md_37 e18 (show decode (tC tMd_reads) 122 = .ok (.getfield 37, 3) by decide +kernel) ?_
            refine v_iload (pc := 125) (show decode (tC tMd_reads) 125 = .ok (.iload 5, 2) by decide +kernel) 4 rfl ?_
            obtain ⟨v19, e20, h⟩ := ob h
            refine v_iald (pc := 127) e20 (show decode (tC tMd_reads) 127 = .ok (.iaload, 1) by decide +kernel) ?_
            refine v_bipush (pc := 128) (v := 6) (show decode (tC tMd_reads) 128 = .ok (.bipush 6, 2) by decide +kernel) (by decide) ?_
            refine v_icmp_le (pc := 130) 145 (show decode (tC tMd_reads) 130 = .ok (.if_icmp .le 15, 3) by decide +kernel) (by decide) (fun c => ?_) (fun c => ?_)
            · replace h := ite_t c h
              exact wMd_reads_145 hR hl (fun y0 y2 y3 y4 y5 T h => ih y0 y2 y3 y4 y5 T h) x0 x2 x3 x4 x5 S h
            · replace h := ite_f c h
              exact wMd_reads_133 hR hl (fun y0 y2 y3 y4 y5 T h => ih y0 y2 y3 y4 y5 T h) x0 x2 x3 x4 x5 S h
def fMd_reads_52  : Nat → Nat → Int32 → Int32 → Int32 → Sx → Option (Int32 × Sx)
  | 0, _, _, _, _, _ => none
  | n + 1, x0, x2, x3, x4, S =>
    (gI S 12 3 x0).bind fun v1 =>
    if v1 ≤ x4 then
    (some (x3, S))
    else
    (fMd_reads_67 (fun y0 y2 y3 y4 T => fMd_reads_52 n y0 y2 y3 y4 T) fuel x0 x2 x3 x4 (4 * x4) S)
set_option maxRecDepth 100000 in
set_option maxHeartbeats 4000000 in
theorem wMd_reads_52 {Γ : vG} (hR : gR Γ = rMd_reads) (hl : (gl Γ).flags = pinnedFlags ++ [noTraceFlag]) {X : Int32 × Sx}  : ∀ (n : Nat) (x0 : Nat) (x2 : Int32) (x3 : Int32) (x4 : Int32) (S : Sx), fMd_reads_52  n x0 x2 x3 x4 S = some X → vV Γ tMd_reads (mQ Γ 0 0 0 (some (.int X.1)) X.2) S 0 0 52 [(0, .ref x0), (2, .int x2), (3, .int x3), (4, .int x4)] [] := by
  intro n
  induction n with
  | zero => intro x0 x2 x3 x4 S h; rw [fMd_reads_52] at h; cases h
  | succ n ih =>
    intro x0 x2 x3 x4 S h
    rw [fMd_reads_52] at h
    refine v_iload (pc := 52) (show decode (tC tMd_reads) 52 = .ok (.iload 4, 2) by decide +kernel) 3 rfl ?_
    refine v_aload_n (pc := 54) (show decode (tC tMd_reads) 54 = .ok (.aload_n 0, 1) by decide +kernel) 0 rfl rfl ?_
    obtain ⟨v1, e2, h⟩ := ob h
    refine v_getI (pc := 55) oF_Md_192 (by decide) e2 (show decode (tC tMd_reads) 55 = .ok (.getfield 192, 3) by decide +kernel) ?_
    refine v_icmp_ge (pc := 58) 180 (show decode (tC tMd_reads) 58 = .ok (.if_icmp .ge 122, 3) by decide +kernel) (by decide) (fun c => ?_) (fun c => ?_)
    · replace h := ite_t c h
      refine v_iload_n (pc := 180) (show decode (tC tMd_reads) 180 = .ok (.iload_n 3, 1) by decide +kernel) 2 rfl rfl ?_
      obtain rfl := Option.some.inj h
      refine v_wide (ce2 := 0) (sl2 := 0) (by decide) (by decide) ?_
      exact v_iret (pc := 181) rfl (show decode (tC tMd_reads) 181 = .ok (.ireturn, 1) by decide +kernel)
    · replace h := ite_f c h
      refine v_iconst (pc := 61) (v := 4) (show decode (tC tMd_reads) 61 = .ok (.iconst 4, 1) by decide +kernel) (by decide) ?_
      refine v_iload (pc := 62) (show decode (tC tMd_reads) 62 = .ok (.iload 4, 2) by decide +kernel) 3 rfl ?_
      refine v_imul (pc := 64) (show decode (tC tMd_reads) 64 = .ok (.imul, 1) by decide +kernel) ?_
      refine v_istore (pc := 65) [(5, .int (4 * x4)), (0, .ref x0), (2, .int x2), (3, .int x3), (4, .int x4)] (show decode (tC tMd_reads) 65 = .ok (.istore 5, 2) by decide +kernel) (by decide) rfl ?_
      refine v_sub [(0, .ref x0), (2, .int x2), (3, .int x3), (4, .int x4), (5, .int (4 * x4))] [1, 2, 3, 4, 0] rfl ?_
      exact wMd_reads_67 hR hl (fun y0 y2 y3 y4 T h => ih y0 y2 y3 y4 T h) fuel x0 x2 x3 x4 (4 * x4) S h
def fMd_reads (x0 : Nat) (x1 : Int32) (S : Sx) : Option (Int32 × Sx) :=
    (gX S 12 27 x0).bind fun v1 =>
    (aI S v1 x1).bind fun v3 =>
    if (0 : Int32) ≤ v3 then
    ((gX S 12 21 x0).bind fun v5 =>
    (aI S v5 v3).bind fun v7 =>
    (gX S 12 22 x0).bind fun v9 =>
    (aI S v9 v3).bind fun v11 =>
    if v11 < 0 then
    (fMd_reads_52  fuel x0 v3 (1 <<< (v7 &&& 31)) 0 S)
    else
    ((gX S 12 22 x0).bind fun v13 =>
    (aI S v13 v3).bind fun v15 =>
    fMd_reads_52  fuel x0 v3 ((1 <<< (v7 &&& 31)) ||| (1 <<< (v15 &&& 31))) 0 S))
    else
    ((gX S 12 28 x0).bind fun v17 =>
    (aI S v17 x1).bind fun v19 =>
    some (1 <<< (v19 &&& 31), S))
set_option maxRecDepth 100000 in
set_option maxHeartbeats 4000000 in
theorem wMd_reads {Γ : vG} (hR : gR Γ = rMd_reads) (hl : (gl Γ).flags = pinnedFlags ++ [noTraceFlag]) (x0 : Nat) (x1 : Int32) (S : Sx) {X : Int32 × Sx} (h : fMd_reads x0 x1 S = some X) : vV Γ tMd_reads (mQ Γ 0 0 0 (some (.int X.1)) X.2) S 0 0 0 [(0, .ref x0), (1, .int x1)] [] := by
  unfold fMd_reads at h
  refine v_aload_n (pc := 0) (show decode (tC tMd_reads) 0 = .ok (.aload_n 0, 1) by decide +kernel) 0 rfl rfl ?_
  obtain ⟨v1, e2, h⟩ := ob h
  refine v_getX (pc := 1) oF_Md_67 e2 (show decode (tC tMd_reads) 1 = .ok (.getfield 67, 3) by decide +kernel) ?_
  refine v_iload_n (pc := 4) (show decode (tC tMd_reads) 4 = .ok (.iload_n 1, 1) by decide +kernel) 1 rfl rfl ?_
  obtain ⟨v3, e4, h⟩ := ob h
  refine v_iald (pc := 5) e4 (show decode (tC tMd_reads) 5 = .ok (.iaload, 1) by decide +kernel) ?_
  refine v_istore_n (pc := 6) [(2, .int v3), (0, .ref x0), (1, .int x1)] (show decode (tC tMd_reads) 6 = .ok (.istore_n 2, 1) by decide +kernel) rfl (by decide) rfl ?_
  refine v_iload_n (pc := 7) (show decode (tC tMd_reads) 7 = .ok (.iload_n 2, 1) by decide +kernel) 0 rfl rfl ?_
  refine v_if_ge (pc := 8) 20 (show decode (tC tMd_reads) 8 = .ok (.ifCond .ge 12, 3) by decide +kernel) (by decide) (fun c => ?_) (fun c => ?_)
  · replace h := ite_t c h
    refine v_iconst (pc := 20) (v := 1) (show decode (tC tMd_reads) 20 = .ok (.iconst 1, 1) by decide +kernel) (by decide) ?_
    refine v_aload_n (pc := 21) (show decode (tC tMd_reads) 21 = .ok (.aload_n 0, 1) by decide +kernel) 1 rfl rfl ?_
    obtain ⟨v5, e6, h⟩ := ob h
    refine v_getX (pc := 22) oF_Md_49 e6 (show decode (tC tMd_reads) 22 = .ok (.getfield 49, 3) by decide +kernel) ?_
    refine v_iload_n (pc := 25) (show decode (tC tMd_reads) 25 = .ok (.iload_n 2, 1) by decide +kernel) 0 rfl rfl ?_
    obtain ⟨v7, e8, h⟩ := ob h
    refine v_iald (pc := 26) e8 (show decode (tC tMd_reads) 26 = .ok (.iaload, 1) by decide +kernel) ?_
    refine v_ishl (pc := 27) (show decode (tC tMd_reads) 27 = .ok (.ishl, 1) by decide +kernel) ?_
    refine v_istore_n (pc := 28) [(3, .int (1 <<< (v7 &&& 31))), (2, .int v3), (0, .ref x0), (1, .int x1)] (show decode (tC tMd_reads) 28 = .ok (.istore_n 3, 1) by decide +kernel) rfl (by decide) rfl ?_
    refine v_aload_n (pc := 29) (show decode (tC tMd_reads) 29 = .ok (.aload_n 0, 1) by decide +kernel) 2 rfl rfl ?_
    obtain ⟨v9, e10, h⟩ := ob h
    refine v_getX (pc := 30) oF_Md_52 e10 (show decode (tC tMd_reads) 30 = .ok (.getfield 52, 3) by decide +kernel) ?_
    refine v_iload_n (pc := 33) (show decode (tC tMd_reads) 33 = .ok (.iload_n 2, 1) by decide +kernel) 1 rfl rfl ?_
    obtain ⟨v11, e12, h⟩ := ob h
    refine v_iald (pc := 34) e12 (show decode (tC tMd_reads) 34 = .ok (.iaload, 1) by decide +kernel) ?_
    refine v_if_lt (pc := 35) 49 (show decode (tC tMd_reads) 35 = .ok (.ifCond .lt 14, 3) by decide +kernel) (by decide) (fun c => ?_) (fun c => ?_)
    · replace h := ite_t c h
      refine v_iconst (pc := 49) (v := 0) (show decode (tC tMd_reads) 49 = .ok (.iconst 0, 1) by decide +kernel) (by decide) ?_
      refine v_istore (pc := 50) [(4, .int 0), (3, .int (1 <<< (v7 &&& 31))), (2, .int v3), (0, .ref x0), (1, .int x1)] (show decode (tC tMd_reads) 50 = .ok (.istore 4, 2) by decide +kernel) (by decide) rfl ?_
      refine v_sub [(0, .ref x0), (2, .int v3), (3, .int (1 <<< (v7 &&& 31))), (4, .int 0)] [3, 2, 1, 0] rfl ?_
      exact wMd_reads_52 hR hl  fuel x0 v3 (1 <<< (v7 &&& 31)) 0 S h
    · replace h := ite_f c h
      refine v_iload_n (pc := 38) (show decode (tC tMd_reads) 38 = .ok (.iload_n 3, 1) by decide +kernel) 0 rfl rfl ?_
      refine v_iconst (pc := 39) (v := 1) (show decode (tC tMd_reads) 39 = .ok (.iconst 1, 1) by decide +kernel) (by decide) ?_
      refine v_aload_n (pc := 40) (show decode (tC tMd_reads) 40 = .ok (.aload_n 0, 1) by decide +kernel) 2 rfl rfl ?_
      obtain ⟨v13, e14, h⟩ := ob h
      refine v_getX (pc := 41) oF_Md_52 e14 (show decode (tC tMd_reads) 41 = .ok (.getfield 52, 3) by decide +kernel) ?_
      refine v_iload_n (pc := 44) (show decode (tC tMd_reads) 44 = .ok (.iload_n 2, 1) by decide +kernel) 1 rfl rfl ?_
      obtain ⟨v15, e16, h⟩ := ob h
      refine v_iald (pc := 45) e16 (show decode (tC tMd_reads) 45 = .ok (.iaload, 1) by decide +kernel) ?_
      refine v_ishl (pc := 46) (show decode (tC tMd_reads) 46 = .ok (.ishl, 1) by decide +kernel) ?_
      refine v_ior (pc := 47) (show decode (tC tMd_reads) 47 = .ok (.ior, 1) by decide +kernel) ?_
      refine v_istore_n (pc := 48) [(3, .int ((1 <<< (v7 &&& 31)) ||| (1 <<< (v15 &&& 31)))), (2, .int v3), (0, .ref x0), (1, .int x1)] (show decode (tC tMd_reads) 48 = .ok (.istore_n 3, 1) by decide +kernel) rfl (by decide) rfl ?_
      refine v_iconst (pc := 49) (v := 0) (show decode (tC tMd_reads) 49 = .ok (.iconst 0, 1) by decide +kernel) (by decide) ?_
      refine v_istore (pc := 50) [(4, .int 0), (3, .int ((1 <<< (v7 &&& 31)) ||| (1 <<< (v15 &&& 31)))), (2, .int v3), (0, .ref x0), (1, .int x1)] (show decode (tC tMd_reads) 50 = .ok (.istore 4, 2) by decide +kernel) (by decide) rfl ?_
      refine v_sub [(0, .ref x0), (2, .int v3), (3, .int ((1 <<< (v7 &&& 31)) ||| (1 <<< (v15 &&& 31)))), (4, .int 0)] [3, 2, 1, 0] rfl ?_
      exact wMd_reads_52 hR hl  fuel x0 v3 ((1 <<< (v7 &&& 31)) ||| (1 <<< (v15 &&& 31))) 0 S h
  · replace h := ite_f c h
    refine v_iconst (pc := 11) (v := 1) (show decode (tC tMd_reads) 11 = .ok (.iconst 1, 1) by decide +kernel) (by decide) ?_
    refine v_aload_n (pc := 12) (show decode (tC tMd_reads) 12 = .ok (.aload_n 0, 1) by decide +kernel) 1 rfl rfl ?_
    obtain ⟨v17, e18, h⟩ := ob h
    refine v_getX (pc := 13) oF_Md_70 e18 (show decode (tC tMd_reads) 13 = .ok (.getfield 70, 3) by decide +kernel) ?_
    refine v_iload_n (pc := 16) (show decode (tC tMd_reads) 16 = .ok (.iload_n 1, 1) by decide +kernel) 2 rfl rfl ?_
    obtain ⟨v19, e20, h⟩ := ob h
    refine v_iald (pc := 17) e20 (show decode (tC tMd_reads) 17 = .ok (.iaload, 1) by decide +kernel) ?_
    refine v_ishl (pc := 18) (show decode (tC tMd_reads) 18 = .ok (.ishl, 1) by decide +kernel) ?_
    obtain rfl := Option.some.inj h
    refine v_wide (ce2 := 0) (sl2 := 0) (by decide) (by decide) ?_
    exact v_iret (pc := 19) rfl (show decode (tC tMd_reads) 19 = .ok (.ireturn, 1) by decide +kernel)
theorem cMd_reads {l : Launch} (hl : l.flags = pinnedFlags ++ [noTraceFlag]) {D : va_G} {dA : Nat → ClassId} {B : Nat} {x0 : Nat} {x1 : Int32} {S : Sx} {X : Int32 × Sx} (h : fMd_reads x0 x1 S = some X) : Mx l yMd_reads tMd_reads rMd_reads 0 0 D dA B S [.ref x0, .int x1] 0 (some (.int X.1)) X.2 :=
  mx_of hl (by decide) rfl rfl (Nat.le_of_ble_eq_true rfl) (fun Γ e1 e2 e3 e4 e5 => by subst e1; subst e3; subst e4; subst e5; exact wMd_reads e2 hl x0 x1 S h)
/-! MatchPipeModel.writes(I)I -/
def yMd_writes : MethodName := ⟨"MatchPipeModel", "writes", "(I)I"⟩
def tMd_writes : tM := (prog_14_method_16_code, "MatchPipeModel", 6, "writes", some .int, [])
def rMd_writes : Room := { frames := 0, cells := 0, slots := 0, locals := 0 }
theorem kMd_writes : cOf yMd_writes tMd_writes ∈ gT := gT_in 1507 (by decide +kernel) rfl
theorem iMd_writes : Cond.initialized yMd_writes.cls ∈ gT := gT_in 68 (by decide +kernel) rfl
theorem mMd_writes : okM yMd_writes 1 := ⟨by decide, by decide, by unfold nPar; decide +kernel⟩
theorem nMd_writes : Cond.instanceMethod yMd_writes ∈ gT := gT_in 1506 (by decide +kernel) rfl
theorem lMd_writes : Cond.selects "MatchPipeModel" yMd_writes yMd_writes ∈ gT := gT_in 32 (by decide +kernel) rfl
def fMd_writes_125 (k31 : Nat → Int32 → Int32 → Int32 → Int32 → Sx → Option (Int32 × Sx)) (x0 : Nat) (x2 : Int32) (x3 : Int32) (x4 : Int32) (x5 : Int32) (S : Sx) : Option (Int32 × Sx) :=
    (gX S 12 17 x0).bind fun v1 =>
    (aI S v1 x5).bind fun v3 =>
    if v3 = 6 then
    (k31 x0 x2 (x3 ||| 131072) x4 (x5 + 1) S)
    else
    (k31 x0 x2 x3 x4 (x5 + 1) S)
set_option maxRecDepth 100000 in
set_option maxHeartbeats 4000000 in
theorem wMd_writes_125 {Γ : vG} (hR : gR Γ = rMd_writes) (hl : (gl Γ).flags = pinnedFlags ++ [noTraceFlag]) {X : Int32 × Sx} {k31 : Nat → Int32 → Int32 → Int32 → Int32 → Sx → Option (Int32 × Sx)} (hk31 : ∀ (x0 : Nat) (x2 : Int32) (x3 : Int32) (x4 : Int32) (x5 : Int32) (S : Sx), k31 x0 x2 x3 x4 x5 S = some X → vV Γ tMd_writes (mQ Γ 0 0 0 (some (.int X.1)) X.2) S 0 0 31 [(0, .ref x0), (2, .int x2), (3, .int x3), (4, .int x4), (5, .int x5)] []) : ∀ (x0 : Nat) (x2 : Int32) (x3 : Int32) (x4 : Int32) (x5 : Int32) (S : Sx), fMd_writes_125 k31 x0 x2 x3 x4 x5 S = some X → vV Γ tMd_writes (mQ Γ 0 0 0 (some (.int X.1)) X.2) S 0 0 125 [(0, .ref x0), (2, .int x2), (3, .int x3), (4, .int x4), (5, .int x5)] [] := by
  intro x0 x2 x3 x4 x5 S h
  unfold fMd_writes_125 at h
  refine v_aload_n (pc := 125) (show decode (tC tMd_writes) 125 = .ok (.aload_n 0, 1) by decide +kernel) 0 rfl rfl ?_
  obtain ⟨v1, e2, h⟩ := ob h
  refine v_getX (pc := 126) oF_Md_37 e2 (show decode (tC tMd_writes) 126 = .ok (.getfield 37, 3) by decide +kernel) ?_
  refine v_iload (pc := 129) (show decode (tC tMd_writes) 129 = .ok (.iload 5, 2) by decide +kernel) 4 rfl ?_
  obtain ⟨v3, e4, h⟩ := ob h
  refine v_iald (pc := 131) e4 (show decode (tC tMd_writes) 131 = .ok (.iaload, 1) by decide +kernel) ?_
  refine v_bipush (pc := 132) (v := 6) (show decode (tC tMd_writes) 132 = .ok (.bipush 6, 2) by decide +kernel) (by decide) ?_
  refine v_icmp_ne (pc := 134) 142 (show decode (tC tMd_writes) 134 = .ok (.if_icmp .ne 8, 3) by decide +kernel) (by decide) (fun c => ?_) (fun c => ?_)
  · replace h := ite_f c h
    refine v_iinc (pc := 142) (j := 4) [(5, .int (x5 + 1)), (0, .ref x0), (2, .int x2), (3, .int x3), (4, .int x4)] (show decode (tC tMd_writes) 142 = .ok (.iinc 5 1, 3) by decide +kernel) rfl rfl (by decide) rfl ?_
    refine v_goto (pc := 145) 31 (show decode (tC tMd_writes) 145 = .ok (.goto (-114), 3) by decide +kernel) (by decide) ?_
    refine v_sub [(0, .ref x0), (2, .int x2), (3, .int x3), (4, .int x4), (5, .int (x5 + 1))] [1, 2, 3, 4, 0] rfl ?_
    exact hk31 x0 x2 x3 x4 (x5 + 1) S h
  · replace h := ite_t c h
    refine v_iload_n (pc := 137) (show decode (tC tMd_writes) 137 = .ok (.iload_n 3, 1) by decide +kernel) 2 rfl rfl ?_
    refine v_ldc (pc := 138) (v := 131072) (gT_in 1509 (by decide +kernel) rfl) (show decode (tC tMd_writes) 138 = .ok (.ldc 250, 2) by decide +kernel) ?_
    refine v_ior (pc := 140) (show decode (tC tMd_writes) 140 = .ok (.ior, 1) by decide +kernel) ?_
    refine v_istore_n (pc := 141) [(3, .int (x3 ||| 131072)), (0, .ref x0), (2, .int x2), (4, .int x4), (5, .int x5)] (show decode (tC tMd_writes) 141 = .ok (.istore_n 3, 1) by decide +kernel) rfl (by decide) rfl ?_
    refine v_iinc (pc := 142) (j := 4) [(5, .int (x5 + 1)), (3, .int (x3 ||| 131072)), (0, .ref x0), (2, .int x2), (4, .int x4)] (show decode (tC tMd_writes) 142 = .ok (.iinc 5 1, 3) by decide +kernel) rfl rfl (by decide) rfl ?_
    refine v_goto (pc := 145) 31 (show decode (tC tMd_writes) 145 = .ok (.goto (-114), 3) by decide +kernel) (by decide) ?_
    refine v_sub [(0, .ref x0), (2, .int x2), (3, .int (x3 ||| 131072)), (4, .int x4), (5, .int (x5 + 1))] [2, 3, 1, 4, 0] rfl ?_
    exact hk31 x0 x2 (x3 ||| 131072) x4 (x5 + 1) S h
def fMd_writes_120 (k31 : Nat → Int32 → Int32 → Int32 → Int32 → Sx → Option (Int32 × Sx)) (x0 : Nat) (x2 : Int32) (x3 : Int32) (x4 : Int32) (x5 : Int32) (S : Sx) : Option (Int32 × Sx) :=
    fMd_writes_125 k31 x0 x2 (x3 ||| 65536) x4 x5 S
set_option maxRecDepth 100000 in
set_option maxHeartbeats 4000000 in
theorem wMd_writes_120 {Γ : vG} (hR : gR Γ = rMd_writes) (hl : (gl Γ).flags = pinnedFlags ++ [noTraceFlag]) {X : Int32 × Sx} {k31 : Nat → Int32 → Int32 → Int32 → Int32 → Sx → Option (Int32 × Sx)} (hk31 : ∀ (x0 : Nat) (x2 : Int32) (x3 : Int32) (x4 : Int32) (x5 : Int32) (S : Sx), k31 x0 x2 x3 x4 x5 S = some X → vV Γ tMd_writes (mQ Γ 0 0 0 (some (.int X.1)) X.2) S 0 0 31 [(0, .ref x0), (2, .int x2), (3, .int x3), (4, .int x4), (5, .int x5)] []) : ∀ (x0 : Nat) (x2 : Int32) (x3 : Int32) (x4 : Int32) (x5 : Int32) (S : Sx), fMd_writes_120 k31 x0 x2 x3 x4 x5 S = some X → vV Γ tMd_writes (mQ Γ 0 0 0 (some (.int X.1)) X.2) S 0 0 120 [(0, .ref x0), (2, .int x2), (3, .int x3), (4, .int x4), (5, .int x5)] [] := by
  intro x0 x2 x3 x4 x5 S h
  unfold fMd_writes_120 at h
  refine v_iload_n (pc := 120) (show decode (tC tMd_writes) 120 = .ok (.iload_n 3, 1) by decide +kernel) 2 rfl rfl ?_
  refine v_ldc (pc := 121) (v := 65536) (gT_in 1508 (by decide +kernel) rfl) (show decode (tC tMd_writes) 121 = .ok (.ldc 249, 2) by decide +kernel) ?_
  refine v_ior (pc := 123) (show decode (tC tMd_writes) 123 = .ok (.ior, 1) by decide +kernel) ?_
  refine v_istore_n (pc := 124) [(3, .int (x3 ||| 65536)), (0, .ref x0), (2, .int x2), (4, .int x4), (5, .int x5)] (show decode (tC tMd_writes) 124 = .ok (.istore_n 3, 1) by decide +kernel) rfl (by decide) rfl ?_
  refine v_sub [(0, .ref x0), (2, .int x2), (3, .int (x3 ||| 65536)), (4, .int x4), (5, .int x5)] [1, 2, 0, 3, 4] rfl ?_
  exact wMd_writes_125 hR hl hk31 x0 x2 (x3 ||| 65536) x4 x5 S h
def fMd_writes_98 (k31 : Nat → Int32 → Int32 → Int32 → Int32 → Sx → Option (Int32 × Sx)) (x0 : Nat) (x2 : Int32) (x3 : Int32) (x4 : Int32) (x5 : Int32) (S : Sx) : Option (Int32 × Sx) :=
    (gX S 12 17 x0).bind fun v1 =>
    (aI S v1 x5).bind fun v3 =>
    if v3 = 4 then
    (fMd_writes_120 k31 x0 x2 x3 x4 x5 S)
    else
    ((gX S 12 17 x0).bind fun v5 =>
    (aI S v5 x5).bind fun v7 =>
    if v7 = 5 then
    (fMd_writes_120 k31 x0 x2 x3 x4 x5 S)
    else
    (fMd_writes_125 k31 x0 x2 x3 x4 x5 S))
set_option maxRecDepth 100000 in
set_option maxHeartbeats 4000000 in
theorem wMd_writes_98 {Γ : vG} (hR : gR Γ = rMd_writes) (hl : (gl Γ).flags = pinnedFlags ++ [noTraceFlag]) {X : Int32 × Sx} {k31 : Nat → Int32 → Int32 → Int32 → Int32 → Sx → Option (Int32 × Sx)} (hk31 : ∀ (x0 : Nat) (x2 : Int32) (x3 : Int32) (x4 : Int32) (x5 : Int32) (S : Sx), k31 x0 x2 x3 x4 x5 S = some X → vV Γ tMd_writes (mQ Γ 0 0 0 (some (.int X.1)) X.2) S 0 0 31 [(0, .ref x0), (2, .int x2), (3, .int x3), (4, .int x4), (5, .int x5)] []) : ∀ (x0 : Nat) (x2 : Int32) (x3 : Int32) (x4 : Int32) (x5 : Int32) (S : Sx), fMd_writes_98 k31 x0 x2 x3 x4 x5 S = some X → vV Γ tMd_writes (mQ Γ 0 0 0 (some (.int X.1)) X.2) S 0 0 98 [(0, .ref x0), (2, .int x2), (3, .int x3), (4, .int x4), (5, .int x5)] [] := by
  intro x0 x2 x3 x4 x5 S h
  unfold fMd_writes_98 at h
  refine v_aload_n (pc := 98) (show decode (tC tMd_writes) 98 = .ok (.aload_n 0, 1) by decide +kernel) 0 rfl rfl ?_
  obtain ⟨v1, e2, h⟩ := ob h
  refine v_getX (pc := 99) oF_Md_37 e2 (show decode (tC tMd_writes) 99 = .ok (.getfield 37, 3) by decide +kernel) ?_
  refine v_iload (pc := 102) (show decode (tC tMd_writes) 102 = .ok (.iload 5, 2) by decide +kernel) 4 rfl ?_
  obtain ⟨v3, e4, h⟩ := ob h
  refine v_iald (pc := 104) e4 (show decode (tC tMd_writes) 104 = .ok (.iaload, 1) by decide +kernel) ?_
  refine v_iconst (pc := 105) (v := 4) (show decode (tC tMd_writes) 105 = .ok (.iconst 4, 1) by decide +kernel) (by decide) ?_
  refine v_icmp_eq (pc := 106) 120 (show decode (tC tMd_writes) 106 = .ok (.if_icmp .eq 14, 3) by decide +kernel) (by decide) (fun c => ?_) (fun c => ?_)
  · replace h := ite_t c h
    exact wMd_writes_120 hR hl hk31 x0 x2 x3 x4 x5 S h
  · replace h := ite_f c h
    refine v_aload_n (pc := 109) (show decode (tC tMd_writes) 109 = .ok (.aload_n 0, 1) by decide +kernel) 0 rfl rfl ?_
    obtain ⟨v5, e6, h⟩ := ob h
    refine v_getX (pc := 110) oF_Md_37 e6 (show decode (tC tMd_writes) 110 = .ok (.getfield 37, 3) by decide +kernel) ?_
    refine v_iload (pc := 113) (show decode (tC tMd_writes) 113 = .ok (.iload 5, 2) by decide +kernel) 4 rfl ?_
    obtain ⟨v7, e8, h⟩ := ob h
    refine v_iald (pc := 115) e8 (show decode (tC tMd_writes) 115 = .ok (.iaload, 1) by decide +kernel) ?_
    refine v_iconst (pc := 116) (v := 5) (show decode (tC tMd_writes) 116 = .ok (.iconst 5, 1) by decide +kernel) (by decide) ?_
    refine v_icmp_ne (pc := 117) 125 (show decode (tC tMd_writes) 117 = .ok (.if_icmp .ne 8, 3) by decide +kernel) (by decide) (fun c => ?_) (fun c => ?_)
    · replace h := ite_f c h
      exact wMd_writes_125 hR hl hk31 x0 x2 x3 x4 x5 S h
    · replace h := ite_t c h
      exact wMd_writes_120 hR hl hk31 x0 x2 x3 x4 x5 S h
def fMd_writes_86 (k31 : Nat → Int32 → Int32 → Int32 → Int32 → Sx → Option (Int32 × Sx)) (x0 : Nat) (x2 : Int32) (x3 : Int32) (x4 : Int32) (x5 : Int32) (S : Sx) : Option (Int32 × Sx) :=
    (gX S 12 18 x0).bind fun v1 =>
    (aI S v1 x5).bind fun v3 =>
    fMd_writes_98 k31 x0 x2 (x3 ||| (1 <<< (v3 &&& 31))) x4 x5 S
set_option maxRecDepth 100000 in
set_option maxHeartbeats 4000000 in
theorem wMd_writes_86 {Γ : vG} (hR : gR Γ = rMd_writes) (hl : (gl Γ).flags = pinnedFlags ++ [noTraceFlag]) {X : Int32 × Sx} {k31 : Nat → Int32 → Int32 → Int32 → Int32 → Sx → Option (Int32 × Sx)} (hk31 : ∀ (x0 : Nat) (x2 : Int32) (x3 : Int32) (x4 : Int32) (x5 : Int32) (S : Sx), k31 x0 x2 x3 x4 x5 S = some X → vV Γ tMd_writes (mQ Γ 0 0 0 (some (.int X.1)) X.2) S 0 0 31 [(0, .ref x0), (2, .int x2), (3, .int x3), (4, .int x4), (5, .int x5)] []) : ∀ (x0 : Nat) (x2 : Int32) (x3 : Int32) (x4 : Int32) (x5 : Int32) (S : Sx), fMd_writes_86 k31 x0 x2 x3 x4 x5 S = some X → vV Γ tMd_writes (mQ Γ 0 0 0 (some (.int X.1)) X.2) S 0 0 86 [(0, .ref x0), (2, .int x2), (3, .int x3), (4, .int x4), (5, .int x5)] [] := by
  intro x0 x2 x3 x4 x5 S h
  unfold fMd_writes_86 at h
  refine v_iload_n (pc := 86) (show decode (tC tMd_writes) 86 = .ok (.iload_n 3, 1) by decide +kernel) 2 rfl rfl ?_
  refine v_iconst (pc := 87) (v := 1) (show decode (tC tMd_writes) 87 = .ok (.iconst 1, 1) by decide +kernel) (by decide) ?_
  refine v_aload_n (pc := 88) (show decode (tC tMd_writes) 88 = .ok (.aload_n 0, 1) by decide +kernel) 0 rfl rfl ?_
  obtain ⟨v1, e2, h⟩ := ob h
  refine v_getX (pc := 89) oF_Md_40 e2 (show decode (tC tMd_writes) 89 = .ok (.getfield 40, 3) by decide +kernel) ?_
  refine v_iload (pc := 92) (show decode (tC tMd_writes) 92 = .ok (.iload 5, 2) by decide +kernel) 4 rfl ?_
  obtain ⟨v3, e4, h⟩ := ob h
  refine v_iald (pc := 94) e4 (show decode (tC tMd_writes) 94 = .ok (.iaload, 1) by decide +kernel) ?_
  refine v_ishl (pc := 95) (show decode (tC tMd_writes) 95 = .ok (.ishl, 1) by decide +kernel) ?_
  refine v_ior (pc := 96) (show decode (tC tMd_writes) 96 = .ok (.ior, 1) by decide +kernel) ?_
  refine v_istore_n (pc := 97) [(3, .int (x3 ||| (1 <<< (v3 &&& 31)))), (0, .ref x0), (2, .int x2), (4, .int x4), (5, .int x5)] (show decode (tC tMd_writes) 97 = .ok (.istore_n 3, 1) by decide +kernel) rfl (by decide) rfl ?_
  refine v_sub [(0, .ref x0), (2, .int x2), (3, .int (x3 ||| (1 <<< (v3 &&& 31)))), (4, .int x4), (5, .int x5)] [1, 2, 0, 3, 4] rfl ?_
  exact wMd_writes_98 hR hl hk31 x0 x2 (x3 ||| (1 <<< (v3 &&& 31))) x4 x5 S h
def fMd_writes_31 (k12 : Nat → Int32 → Int32 → Int32 → Sx → Option (Int32 × Sx)) : Nat → Nat → Int32 → Int32 → Int32 → Int32 → Sx → Option (Int32 × Sx)
  | 0, _, _, _, _, _, _ => none
  | n + 1, x0, x2, x3, x4, x5, S =>
    (gX S 12 16 x0).bind fun v1 =>
    (aI S v1 x4).bind fun v3 =>
    if ((4 * x4) + v3) ≤ x5 then
    (k12 x0 x2 x3 (x4 + 1) S)
    else
    ((gX S 12 25 x0).bind fun v5 =>
    (aI S v5 x2).bind fun v7 =>
    if ((v7 >>> (x4 &&& 31)) &&& 1) = 1 then
    ((gX S 12 17 x0).bind fun v9 =>
    (aI S v9 x5).bind fun v11 =>
    if v11 < 4 then
    (fMd_writes_86 (fun y0 y2 y3 y4 y5 T => fMd_writes_31 k12 n y0 y2 y3 y4 y5 T) x0 x2 x3 x4 x5 S)
    else
    ((gX S 12 17 x0).bind fun v13 =>
    (aI S v13 x5).bind fun v15 =>
    if v15 = 8 then
    (fMd_writes_86 (fun y0 y2 y3 y4 y5 T => fMd_writes_31 k12 n y0 y2 y3 y4 y5 T) x0 x2 x3 x4 x5 S)
    else
    (fMd_writes_98 (fun y0 y2 y3 y4 y5 T => fMd_writes_31 k12 n y0 y2 y3 y4 y5 T) x0 x2 x3 x4 x5 S)))
    else
    (k12 x0 x2 x3 (x4 + 1) S))
set_option maxRecDepth 100000 in
set_option maxHeartbeats 4000000 in
theorem wMd_writes_31 {Γ : vG} (hR : gR Γ = rMd_writes) (hl : (gl Γ).flags = pinnedFlags ++ [noTraceFlag]) {X : Int32 × Sx} {k12 : Nat → Int32 → Int32 → Int32 → Sx → Option (Int32 × Sx)} (hk12 : ∀ (x0 : Nat) (x2 : Int32) (x3 : Int32) (x4 : Int32) (S : Sx), k12 x0 x2 x3 x4 S = some X → vV Γ tMd_writes (mQ Γ 0 0 0 (some (.int X.1)) X.2) S 0 0 12 [(0, .ref x0), (2, .int x2), (3, .int x3), (4, .int x4)] []) : ∀ (n : Nat) (x0 : Nat) (x2 : Int32) (x3 : Int32) (x4 : Int32) (x5 : Int32) (S : Sx), fMd_writes_31 k12 n x0 x2 x3 x4 x5 S = some X → vV Γ tMd_writes (mQ Γ 0 0 0 (some (.int X.1)) X.2) S 0 0 31 [(0, .ref x0), (2, .int x2), (3, .int x3), (4, .int x4), (5, .int x5)] [] := by
  intro n
  induction n with
  | zero => intro x0 x2 x3 x4 x5 S h; rw [fMd_writes_31] at h; cases h
  | succ n ih =>
    intro x0 x2 x3 x4 x5 S h
    rw [fMd_writes_31] at h
    refine v_iload (pc := 31) (show decode (tC tMd_writes) 31 = .ok (.iload 5, 2) by decide +kernel) 4 rfl ?_
    refine v_iconst (pc := 33) (v := 4) (show decode (tC tMd_writes) 33 = .ok (.iconst 4, 1) by decide +kernel) (by decide) ?_
    refine v_iload (pc := 34) (show decode (tC tMd_writes) 34 = .ok (.iload 4, 2) by decide +kernel) 3 rfl ?_
    refine v_imul (pc := 36) (show decode (tC tMd_writes) 36 = .ok (.imul, 1) by decide +kernel) ?_
    refine v_aload_n (pc := 37) (show decode (tC tMd_writes) 37 = .ok (.aload_n 0, 1) by decide +kernel) 0 rfl rfl ?_
    obtain ⟨v1, e2, h⟩ := ob h
    refine v_getX (pc := 38) oF_Md_34 e2 (show decode (tC tMd_writes) 38 = .ok (.getfield 34, 3) by decide +kernel) ?_
    refine v_iload (pc := 41) (show decode (tC tMd_writes) 41 = .ok (.iload 4, 2) by decide +kernel) 3 rfl ?_
    obtain ⟨v3, e4, h⟩ := ob h
    refine v_iald (pc := 43) e4 (show decode (tC tMd_writes) 43 = .ok (.iaload, 1) by decide +kernel) ?_
    refine v_iadd (pc := 44) (show decode (tC tMd_writes) 44 = .ok (.iadd, 1) by decide +kernel) ?_
    refine v_icmp_ge (pc := 45) 148 (show decode (tC tMd_writes) 45 = .ok (.if_icmp .ge 103, 3) by decide +kernel) (by decide) (fun c => ?_) (fun c => ?_)
    · replace h := ite_t c h
      refine v_iinc (pc := 148) (j := 3) [(4, .int (x4 + 1)), (0, .ref x0), (2, .int x2), (3, .int x3), (5, .int x5)] (show decode (tC tMd_writes) 148 = .ok (.iinc 4 1, 3) by decide +kernel) rfl rfl (by decide) rfl ?_
      refine v_goto (pc := 151) 12 (show decode (tC tMd_writes) 151 = .ok (.goto (-139), 3) by decide +kernel) (by decide) ?_
      refine v_sub [(0, .ref x0), (2, .int x2), (3, .int x3), (4, .int (x4 + 1))] [1, 2, 3, 0] rfl ?_
      exact hk12 x0 x2 x3 (x4 + 1) S h
    · replace h := ite_f c h
      refine v_aload_n (pc := 48) (show decode (tC tMd_writes) 48 = .ok (.aload_n 0, 1) by decide +kernel) 0 rfl rfl ?_
      obtain ⟨v5, e6, h⟩ := ob h
      refine v_getX (pc := 49) oF_Md_61 e6 (show decode (tC tMd_writes) 49 = .ok (.getfield 61, 3) by decide +kernel) ?_
      refine v_iload_n (pc := 52) (show decode (tC tMd_writes) 52 = .ok (.iload_n 2, 1) by decide +kernel) 1 rfl rfl ?_
      obtain ⟨v7, e8, h⟩ := ob h
      refine v_iald (pc := 53) e8 (show decode (tC tMd_writes) 53 = .ok (.iaload, 1) by decide +kernel) ?_
      refine v_iload (pc := 54) (show decode (tC tMd_writes) 54 = .ok (.iload 4, 2) by decide +kernel) 3 rfl ?_
      refine v_ishr (pc := 56) (show decode (tC tMd_writes) 56 = .ok (.ishr, 1) by decide +kernel) ?_
      refine v_iconst (pc := 57) (v := 1) (show decode (tC tMd_writes) 57 = .ok (.iconst 1, 1) by decide +kernel) (by decide) ?_
      refine v_iand (pc := 58) (show decode (tC tMd_writes) 58 = .ok (.iand, 1) by decide +kernel) ?_
      refine v_iconst (pc := 59) (v := 1) (show decode (tC tMd_writes) 59 = .ok (.iconst 1, 1) by decide +kernel) (by decide) ?_
      refine v_icmp_ne (pc := 60) 148 (show decode (tC tMd_writes) 60 = .ok (.if_icmp .ne 88, 3) by decide +kernel) (by decide) (fun c => ?_) (fun c => ?_)
      · replace h := ite_f c h
        refine v_iinc (pc := 148) (j := 3) [(4, .int (x4 + 1)), (0, .ref x0), (2, .int x2), (3, .int x3), (5, .int x5)] (show decode (tC tMd_writes) 148 = .ok (.iinc 4 1, 3) by decide +kernel) rfl rfl (by decide) rfl ?_
        refine v_goto (pc := 151) 12 (show decode (tC tMd_writes) 151 = .ok (.goto (-139), 3) by decide +kernel) (by decide) ?_
        refine v_sub [(0, .ref x0), (2, .int x2), (3, .int x3), (4, .int (x4 + 1))] [1, 2, 3, 0] rfl ?_
        exact hk12 x0 x2 x3 (x4 + 1) S h
      · replace h := ite_t c h
        refine v_aload_n (pc := 63) (show decode (tC tMd_writes) 63 = .ok (.aload_n 0, 1) by decide +kernel) 0 rfl rfl ?_
        obtain ⟨v9, e10, h⟩ := ob h
        refine v_getX (pc := 64) oF_Md_37 e10 (show decode (tC tMd_writes) 64 = .ok (.getfield 37, 3) by decide +kernel) ?_
        refine v_iload (pc := 67) (show decode (tC tMd_writes) 67 = .ok (.iload 5, 2) by decide +kernel) 4 rfl ?_
        obtain ⟨v11, e12, h⟩ := ob h
        refine v_iald (pc := 69) e12 (show decode (tC tMd_writes) 69 = .ok (.iaload, 1) by decide +kernel) ?_
        refine v_iconst (pc := 70) (v := 4) (show decode (tC tMd_writes) 70 = .ok (.iconst 4, 1) by decide +kernel) (by decide) ?_
        refine v_icmp_lt (pc := 71) 86 (show decode (tC tMd_writes) 71 = .ok (.if_icmp .lt 15, 3) by decide +kernel) (by decide) (fun c => ?_) (fun c => ?_)
        · replace h := ite_t c h
          exact wMd_writes_86 hR hl (fun y0 y2 y3 y4 y5 T h => ih y0 y2 y3 y4 y5 T h) x0 x2 x3 x4 x5 S h
        · replace h := ite_f c h
          refine v_aload_n (pc := 74) (show decode (tC tMd_writes) 74 = .ok (.aload_n 0, 1) by decide +kernel) 0 rfl rfl ?_
          obtain ⟨v13, e14, h⟩ := ob h
          refine v_getX (pc := 75) oF_Md_37 e14 (show decode (tC tMd_writes) 75 = .ok (.getfield 37, 3) by decide +kernel) ?_
          refine v_iload (pc := 78) (show decode (tC tMd_writes) 78 = .ok (.iload 5, 2) by decide +kernel) 4 rfl ?_
          obtain ⟨v15, e16, h⟩ := ob h
          refine v_iald (pc := 80) e16 (show decode (tC tMd_writes) 80 = .ok (.iaload, 1) by decide +kernel) ?_
          refine v_bipush (pc := 81) (v := 8) (show decode (tC tMd_writes) 81 = .ok (.bipush 8, 2) by decide +kernel) (by decide) ?_
          refine v_icmp_ne (pc := 83) 98 (show decode (tC tMd_writes) 83 = .ok (.if_icmp .ne 15, 3) by decide +kernel) (by decide) (fun c => ?_) (fun c => ?_)
          · replace h := ite_f c h
            exact wMd_writes_98 hR hl (fun y0 y2 y3 y4 y5 T h => ih y0 y2 y3 y4 y5 T h) x0 x2 x3 x4 x5 S h
          · replace h := ite_t c h
            exact wMd_writes_86 hR hl (fun y0 y2 y3 y4 y5 T h => ih y0 y2 y3 y4 y5 T h) x0 x2 x3 x4 x5 S h
def fMd_writes_12  : Nat → Nat → Int32 → Int32 → Int32 → Sx → Option (Int32 × Sx)
  | 0, _, _, _, _, _ => none
  | n + 1, x0, x2, x3, x4, S =>
    (gI S 12 3 x0).bind fun v1 =>
    if v1 ≤ x4 then
    (some (x3, S))
    else
    (if x2 < 0 then
    (some (x3, S))
    else
    (fMd_writes_31 (fun y0 y2 y3 y4 T => fMd_writes_12 n y0 y2 y3 y4 T) fuel x0 x2 x3 x4 (4 * x4) S))
set_option maxRecDepth 100000 in
set_option maxHeartbeats 4000000 in
theorem wMd_writes_12 {Γ : vG} (hR : gR Γ = rMd_writes) (hl : (gl Γ).flags = pinnedFlags ++ [noTraceFlag]) {X : Int32 × Sx}  : ∀ (n : Nat) (x0 : Nat) (x2 : Int32) (x3 : Int32) (x4 : Int32) (S : Sx), fMd_writes_12  n x0 x2 x3 x4 S = some X → vV Γ tMd_writes (mQ Γ 0 0 0 (some (.int X.1)) X.2) S 0 0 12 [(0, .ref x0), (2, .int x2), (3, .int x3), (4, .int x4)] [] := by
  intro n
  induction n with
  | zero => intro x0 x2 x3 x4 S h; rw [fMd_writes_12] at h; cases h
  | succ n ih =>
    intro x0 x2 x3 x4 S h
    rw [fMd_writes_12] at h
    refine v_iload (pc := 12) (show decode (tC tMd_writes) 12 = .ok (.iload 4, 2) by decide +kernel) 3 rfl ?_
    refine v_aload_n (pc := 14) (show decode (tC tMd_writes) 14 = .ok (.aload_n 0, 1) by decide +kernel) 0 rfl rfl ?_
    obtain ⟨v1, e2, h⟩ := ob h
    refine v_getI (pc := 15) oF_Md_192 (by decide) e2 (show decode (tC tMd_writes) 15 = .ok (.getfield 192, 3) by decide +kernel) ?_
    refine v_icmp_ge (pc := 18) 154 (show decode (tC tMd_writes) 18 = .ok (.if_icmp .ge 136, 3) by decide +kernel) (by decide) (fun c => ?_) (fun c => ?_)
    · replace h := ite_t c h
      refine v_iload_n (pc := 154) (show decode (tC tMd_writes) 154 = .ok (.iload_n 3, 1) by decide +kernel) 2 rfl rfl ?_
      obtain rfl := Option.some.inj h
      refine v_wide (ce2 := 0) (sl2 := 0) (by decide) (by decide) ?_
      exact v_iret (pc := 155) rfl (show decode (tC tMd_writes) 155 = .ok (.ireturn, 1) by decide +kernel)
    · replace h := ite_f c h
      refine v_iload_n (pc := 21) (show decode (tC tMd_writes) 21 = .ok (.iload_n 2, 1) by decide +kernel) 1 rfl rfl ?_
      refine v_if_lt (pc := 22) 154 (show decode (tC tMd_writes) 22 = .ok (.ifCond .lt 132, 3) by decide +kernel) (by decide) (fun c => ?_) (fun c => ?_)
      · replace h := ite_t c h
        refine v_iload_n (pc := 154) (show decode (tC tMd_writes) 154 = .ok (.iload_n 3, 1) by decide +kernel) 2 rfl rfl ?_
        obtain rfl := Option.some.inj h
        refine v_wide (ce2 := 0) (sl2 := 0) (by decide) (by decide) ?_
        exact v_iret (pc := 155) rfl (show decode (tC tMd_writes) 155 = .ok (.ireturn, 1) by decide +kernel)
      · replace h := ite_f c h
        refine v_iconst (pc := 25) (v := 4) (show decode (tC tMd_writes) 25 = .ok (.iconst 4, 1) by decide +kernel) (by decide) ?_
        refine v_iload (pc := 26) (show decode (tC tMd_writes) 26 = .ok (.iload 4, 2) by decide +kernel) 3 rfl ?_
        refine v_imul (pc := 28) (show decode (tC tMd_writes) 28 = .ok (.imul, 1) by decide +kernel) ?_
        refine v_istore (pc := 29) [(5, .int (4 * x4)), (0, .ref x0), (2, .int x2), (3, .int x3), (4, .int x4)] (show decode (tC tMd_writes) 29 = .ok (.istore 5, 2) by decide +kernel) (by decide) rfl ?_
        refine v_sub [(0, .ref x0), (2, .int x2), (3, .int x3), (4, .int x4), (5, .int (4 * x4))] [1, 2, 3, 4, 0] rfl ?_
        exact wMd_writes_31 hR hl (fun y0 y2 y3 y4 T h => ih y0 y2 y3 y4 T h) fuel x0 x2 x3 x4 (4 * x4) S h
def fMd_writes (x0 : Nat) (x1 : Int32) (S : Sx) : Option (Int32 × Sx) :=
    (gX S 12 27 x0).bind fun v1 =>
    (aI S v1 x1).bind fun v3 =>
    fMd_writes_12  fuel x0 v3 0 0 S
set_option maxRecDepth 100000 in
set_option maxHeartbeats 4000000 in
theorem wMd_writes {Γ : vG} (hR : gR Γ = rMd_writes) (hl : (gl Γ).flags = pinnedFlags ++ [noTraceFlag]) (x0 : Nat) (x1 : Int32) (S : Sx) {X : Int32 × Sx} (h : fMd_writes x0 x1 S = some X) : vV Γ tMd_writes (mQ Γ 0 0 0 (some (.int X.1)) X.2) S 0 0 0 [(0, .ref x0), (1, .int x1)] [] := by
  unfold fMd_writes at h
  refine v_aload_n (pc := 0) (show decode (tC tMd_writes) 0 = .ok (.aload_n 0, 1) by decide +kernel) 0 rfl rfl ?_
  obtain ⟨v1, e2, h⟩ := ob h
  refine v_getX (pc := 1) oF_Md_67 e2 (show decode (tC tMd_writes) 1 = .ok (.getfield 67, 3) by decide +kernel) ?_
  refine v_iload_n (pc := 4) (show decode (tC tMd_writes) 4 = .ok (.iload_n 1, 1) by decide +kernel) 1 rfl rfl ?_
  obtain ⟨v3, e4, h⟩ := ob h
  refine v_iald (pc := 5) e4 (show decode (tC tMd_writes) 5 = .ok (.iaload, 1) by decide +kernel) ?_
  refine v_istore_n (pc := 6) [(2, .int v3), (0, .ref x0), (1, .int x1)] (show decode (tC tMd_writes) 6 = .ok (.istore_n 2, 1) by decide +kernel) rfl (by decide) rfl ?_
  refine v_iconst (pc := 7) (v := 0) (show decode (tC tMd_writes) 7 = .ok (.iconst 0, 1) by decide +kernel) (by decide) ?_
  refine v_istore_n (pc := 8) [(3, .int 0), (2, .int v3), (0, .ref x0), (1, .int x1)] (show decode (tC tMd_writes) 8 = .ok (.istore_n 3, 1) by decide +kernel) rfl (by decide) rfl ?_
  refine v_iconst (pc := 9) (v := 0) (show decode (tC tMd_writes) 9 = .ok (.iconst 0, 1) by decide +kernel) (by decide) ?_
  refine v_istore (pc := 10) [(4, .int 0), (3, .int 0), (2, .int v3), (0, .ref x0), (1, .int x1)] (show decode (tC tMd_writes) 10 = .ok (.istore 4, 2) by decide +kernel) (by decide) rfl ?_
  refine v_sub [(0, .ref x0), (2, .int v3), (3, .int 0), (4, .int 0)] [3, 2, 1, 0] rfl ?_
  exact wMd_writes_12 hR hl  fuel x0 v3 0 0 S h
theorem cMd_writes {l : Launch} (hl : l.flags = pinnedFlags ++ [noTraceFlag]) {D : va_G} {dA : Nat → ClassId} {B : Nat} {x0 : Nat} {x1 : Int32} {S : Sx} {X : Int32 × Sx} (h : fMd_writes x0 x1 S = some X) : Mx l yMd_writes tMd_writes rMd_writes 0 0 D dA B S [.ref x0, .int x1] 0 (some (.int X.1)) X.2 :=
  mx_of hl (by decide) rfl rfl (Nat.le_of_ble_eq_true rfl) (fun Γ e1 e2 e3 e4 e5 => by subst e1; subst e3; subst e4; subst e5; exact wMd_writes e2 hl x0 x1 S h)
/-! MatchPipeModel.toStages()V -/
def yMd_toStages : MethodName := ⟨"MatchPipeModel", "toStages", "()V"⟩
def tMd_toStages : tM := (prog_14_method_22_code, "MatchPipeModel", 7, "toStages", none, [])
def rMd_toStages : Room := { frames := 1, cells := 0, slots := 0, locals := 25 }
theorem kMd_toStages : cOf yMd_toStages tMd_toStages ∈ gT := gT_in 1499 (by decide +kernel) rfl
theorem iMd_toStages : Cond.initialized yMd_toStages.cls ∈ gT := gT_in 68 (by decide +kernel) rfl
theorem mMd_toStages : okM yMd_toStages 0 := ⟨by decide, by decide, by unfold nPar; decide +kernel⟩
theorem nMd_toStages : Cond.instanceMethod yMd_toStages ∈ gT := gT_in 1498 (by decide +kernel) rfl
theorem lMd_toStages : Cond.selects "MatchPipeModel" yMd_toStages yMd_toStages ∈ gT := gT_in 30 (by decide +kernel) rfl
def fMd_toStages_74 (k12 : Nat → Int32 → Int32 → Int32 → Int32 → Int32 → Sx → Option (Sx)) (x0 : Nat) (x1 : Int32) (x2 : Int32) (x3 : Int32) (x5 : Int32) (S : Sx) : Option (Sx) :=
    (gX S 12 32 x0).bind fun v1 =>
    (qI S v1 x5 x1).bind fun S3 =>
    (ckd S3 x0 12).bind fun _ =>
    bd2 (fMd_writes x0 x5 S3) fun r7 S8 =>
    (gX S8 12 27 x0).bind fun v9 =>
    (aI S8 v9 x5).bind fun v11 =>
    if (0 : Int32) ≤ v11 then
    (k12 x0 x1 (x2 + 1) (x3 ||| r7) 0 (x5 + 1) S8)
    else
    (k12 x0 x1 (x2 + 1) (x3 ||| r7) 1 (x5 + 1) S8)
set_option maxRecDepth 100000 in
set_option maxHeartbeats 4000000 in
theorem wMd_toStages_74 {Γ : vG} (hR : gR Γ = rMd_toStages) (hl : (gl Γ).flags = pinnedFlags ++ [noTraceFlag]) {X : Sx} {k12 : Nat → Int32 → Int32 → Int32 → Int32 → Int32 → Sx → Option (Sx)} (hk12 : ∀ (x0 : Nat) (x1 : Int32) (x2 : Int32) (x3 : Int32) (x4 : Int32) (x5 : Int32) (S : Sx), k12 x0 x1 x2 x3 x4 x5 S = some X → vV Γ tMd_toStages (mQ Γ 0 0 0 none X) S 0 0 12 [(0, .ref x0), (1, .int x1), (2, .int x2), (3, .int x3), (4, .int x4), (5, .int x5)] []) : ∀ (x0 : Nat) (x1 : Int32) (x2 : Int32) (x3 : Int32) (x5 : Int32) (S : Sx), fMd_toStages_74 k12 x0 x1 x2 x3 x5 S = some X → vV Γ tMd_toStages (mQ Γ 0 0 0 none X) S 0 0 74 [(0, .ref x0), (1, .int x1), (2, .int x2), (3, .int x3), (5, .int x5)] [] := by
  intro x0 x1 x2 x3 x5 S h
  unfold fMd_toStages_74 at h
  refine v_aload_n (pc := 74) (show decode (tC tMd_toStages) 74 = .ok (.aload_n 0, 1) by decide +kernel) 0 rfl rfl ?_
  obtain ⟨v1, e2, h⟩ := ob h
  refine v_getX (pc := 75) oF_Md_82 e2 (show decode (tC tMd_toStages) 75 = .ok (.getfield 82, 3) by decide +kernel) ?_
  refine v_iload (pc := 78) (show decode (tC tMd_toStages) 78 = .ok (.iload 5, 2) by decide +kernel) 4 rfl ?_
  refine v_iload_n (pc := 80) (show decode (tC tMd_toStages) 80 = .ok (.iload_n 1, 1) by decide +kernel) 1 rfl rfl ?_
  obtain ⟨S3, e4, h⟩ := ob h
  refine v_iast (pc := 81) e4 (show decode (tC tMd_toStages) 81 = .ok (.iastore, 1) by decide +kernel) ?_
  refine v_iinc (pc := 82) (j := 2) [(2, .int (x2 + 1)), (0, .ref x0), (1, .int x1), (3, .int x3), (5, .int x5)] (show decode (tC tMd_toStages) 82 = .ok (.iinc 2 1, 3) by decide +kernel) rfl rfl (by decide) rfl ?_
  refine v_iload_n (pc := 85) (show decode (tC tMd_toStages) 85 = .ok (.iload_n 3, 1) by decide +kernel) 3 rfl rfl ?_
  refine v_aload_n (pc := 86) (show decode (tC tMd_toStages) 86 = .ok (.aload_n 0, 1) by decide +kernel) 1 rfl rfl ?_
  refine v_iload (pc := 87) (show decode (tC tMd_toStages) 87 = .ok (.iload 5, 2) by decide +kernel) 4 rfl ?_
  obtain ⟨_, e6, h⟩ := ob h
  obtain ⟨r7, S8, e5, h⟩ := ob2 h
  refine v_call (pc := 89) (v := (some (.int r7))) (y := yMd_writes) (θ' := tMd_writes) (rm := rMd_writes) (av := [.ref x0, .int x5]) (st := [.int x3]) (cMd_writes (l := gl Γ) hl e5) kMd_writes iMd_writes (iv_virt (y := yMd_writes) (θ' := tMd_writes) (kd := 12) (As := [.int x5]) rfl (ckd_of e6) kMd_writes (gT_in 1504 (by decide +kernel) rfl) nMd_writes lMd_writes mMd_writes rfl (show decode (tC tMd_toStages) 89 = .ok (.invokevirtual 269, 3) by decide +kernel)) ⟨by rw [hR]; decide, by rw [hR]; decide, by rw [hR]; decide, by rw [hR]; decide⟩ (Nat.le_of_ble_eq_true rfl) ?_
  refine v_ior (pc := 92) (show decode (tC tMd_toStages) 92 = .ok (.ior, 1) by decide +kernel) ?_
  refine v_istore_n (pc := 93) [(3, .int (x3 ||| r7)), (2, .int (x2 + 1)), (0, .ref x0), (1, .int x1), (5, .int x5)] (show decode (tC tMd_toStages) 93 = .ok (.istore_n 3, 1) by decide +kernel) rfl (by decide) rfl ?_
  refine v_aload_n (pc := 94) (show decode (tC tMd_toStages) 94 = .ok (.aload_n 0, 1) by decide +kernel) 2 rfl rfl ?_
  obtain ⟨v9, e10, h⟩ := ob h
  refine v_getX (pc := 95) oF_Md_67 e10 (show decode (tC tMd_toStages) 95 = .ok (.getfield 67, 3) by decide +kernel) ?_
  refine v_iload (pc := 98) (show decode (tC tMd_toStages) 98 = .ok (.iload 5, 2) by decide +kernel) 4 rfl ?_
  obtain ⟨v11, e12, h⟩ := ob h
  refine v_iald (pc := 100) e12 (show decode (tC tMd_toStages) 100 = .ok (.iaload, 1) by decide +kernel) ?_
  refine v_if_ge (pc := 101) 108 (show decode (tC tMd_toStages) 101 = .ok (.ifCond .ge 7, 3) by decide +kernel) (by decide) (fun c => ?_) (fun c => ?_)
  · replace h := ite_t c h
    refine v_iconst (pc := 108) (v := 0) (show decode (tC tMd_toStages) 108 = .ok (.iconst 0, 1) by decide +kernel) (by decide) ?_
    refine v_istore (pc := 109) [(4, .int 0), (3, .int (x3 ||| r7)), (2, .int (x2 + 1)), (0, .ref x0), (1, .int x1), (5, .int x5)] (show decode (tC tMd_toStages) 109 = .ok (.istore 4, 2) by decide +kernel) (by decide) rfl ?_
    refine v_iinc (pc := 111) (j := 5) [(5, .int (x5 + 1)), (4, .int 0), (3, .int (x3 ||| r7)), (2, .int (x2 + 1)), (0, .ref x0), (1, .int x1)] (show decode (tC tMd_toStages) 111 = .ok (.iinc 5 1, 3) by decide +kernel) rfl rfl (by decide) rfl ?_
    refine v_goto (pc := 114) 12 (show decode (tC tMd_toStages) 114 = .ok (.goto (-102), 3) by decide +kernel) (by decide) ?_
    refine v_sub [(0, .ref x0), (1, .int x1), (2, .int (x2 + 1)), (3, .int (x3 ||| r7)), (4, .int 0), (5, .int (x5 + 1))] [4, 5, 3, 2, 1, 0] rfl ?_
    exact hk12 x0 x1 (x2 + 1) (x3 ||| r7) 0 (x5 + 1) S8 h
  · replace h := ite_f c h
    refine v_iconst (pc := 104) (v := 1) (show decode (tC tMd_toStages) 104 = .ok (.iconst 1, 1) by decide +kernel) (by decide) ?_
    refine v_goto (pc := 105) 109 (show decode (tC tMd_toStages) 105 = .ok (.goto 4, 3) by decide +kernel) (by decide) ?_
    refine v_istore (pc := 109) [(4, .int 1), (3, .int (x3 ||| r7)), (2, .int (x2 + 1)), (0, .ref x0), (1, .int x1), (5, .int x5)] (show decode (tC tMd_toStages) 109 = .ok (.istore 4, 2) by decide +kernel) (by decide) rfl ?_
    refine v_iinc (pc := 111) (j := 5) [(5, .int (x5 + 1)), (4, .int 1), (3, .int (x3 ||| r7)), (2, .int (x2 + 1)), (0, .ref x0), (1, .int x1)] (show decode (tC tMd_toStages) 111 = .ok (.iinc 5 1, 3) by decide +kernel) rfl rfl (by decide) rfl ?_
    refine v_goto (pc := 114) 12 (show decode (tC tMd_toStages) 114 = .ok (.goto (-102), 3) by decide +kernel) (by decide) ?_
    refine v_sub [(0, .ref x0), (1, .int x1), (2, .int (x2 + 1)), (3, .int (x3 ||| r7)), (4, .int 1), (5, .int (x5 + 1))] [4, 5, 3, 2, 1, 0] rfl ?_
    exact hk12 x0 x1 (x2 + 1) (x3 ||| r7) 1 (x5 + 1) S8 h
def fMd_toStages_60 (k12 : Nat → Int32 → Int32 → Int32 → Int32 → Int32 → Sx → Option (Sx)) (x0 : Nat) (x1 : Int32) (x2 : Int32) (x3 : Int32) (x5 : Int32) (S : Sx) : Option (Sx) :=
    if x1 = 12 then
    ((ckd S x0 12).bind fun _ =>
    (fMd_wrong x0 6 x5 S).bind fun S3 =>
    fMd_toStages_74 k12 x0 x1 x2 x3 x5 S3)
    else
    (fMd_toStages_74 k12 x0 x1 x2 x3 x5 S)
set_option maxRecDepth 100000 in
set_option maxHeartbeats 4000000 in
theorem wMd_toStages_60 {Γ : vG} (hR : gR Γ = rMd_toStages) (hl : (gl Γ).flags = pinnedFlags ++ [noTraceFlag]) {X : Sx} {k12 : Nat → Int32 → Int32 → Int32 → Int32 → Int32 → Sx → Option (Sx)} (hk12 : ∀ (x0 : Nat) (x1 : Int32) (x2 : Int32) (x3 : Int32) (x4 : Int32) (x5 : Int32) (S : Sx), k12 x0 x1 x2 x3 x4 x5 S = some X → vV Γ tMd_toStages (mQ Γ 0 0 0 none X) S 0 0 12 [(0, .ref x0), (1, .int x1), (2, .int x2), (3, .int x3), (4, .int x4), (5, .int x5)] []) : ∀ (x0 : Nat) (x1 : Int32) (x2 : Int32) (x3 : Int32) (x5 : Int32) (S : Sx), fMd_toStages_60 k12 x0 x1 x2 x3 x5 S = some X → vV Γ tMd_toStages (mQ Γ 0 0 0 none X) S 0 0 60 [(0, .ref x0), (1, .int x1), (2, .int x2), (3, .int x3), (5, .int x5)] [] := by
  intro x0 x1 x2 x3 x5 S h
  unfold fMd_toStages_60 at h
  refine v_iload_n (pc := 60) (show decode (tC tMd_toStages) 60 = .ok (.iload_n 1, 1) by decide +kernel) 1 rfl rfl ?_
  refine v_bipush (pc := 61) (v := 12) (show decode (tC tMd_toStages) 61 = .ok (.bipush 12, 2) by decide +kernel) (by decide) ?_
  refine v_icmp_ne (pc := 63) 74 (show decode (tC tMd_toStages) 63 = .ok (.if_icmp .ne 11, 3) by decide +kernel) (by decide) (fun c => ?_) (fun c => ?_)
  · replace h := ite_f c h
    exact wMd_toStages_74 hR hl hk12 x0 x1 x2 x3 x5 S h
  · replace h := ite_t c h
    refine v_aload_n (pc := 66) (show decode (tC tMd_toStages) 66 = .ok (.aload_n 0, 1) by decide +kernel) 0 rfl rfl ?_
    refine v_bipush (pc := 67) (v := 6) (show decode (tC tMd_toStages) 67 = .ok (.bipush 6, 2) by decide +kernel) (by decide) ?_
    refine v_iload (pc := 69) (show decode (tC tMd_toStages) 69 = .ok (.iload 5, 2) by decide +kernel) 4 rfl ?_
    obtain ⟨_, e2, h⟩ := ob h
    obtain ⟨S3, e1, h⟩ := ob h
    refine v_call (pc := 71) (v := none) (y := yMd_wrong) (θ' := tMd_wrong) (rm := rMd_wrong) (av := [.ref x0, .int 6, .int x5]) (st := []) (cMd_wrong (l := gl Γ) hl e1) kMd_wrong iMd_wrong (iv_virt (y := yMd_wrong) (θ' := tMd_wrong) (kd := 12) (As := [.int 6, .int x5]) rfl (ckd_of e2) kMd_wrong (gT_in 1480 (by decide +kernel) rfl) nMd_wrong lMd_wrong mMd_wrong rfl (show decode (tC tMd_toStages) 71 = .ok (.invokevirtual 254, 3) by decide +kernel)) ⟨by rw [hR]; decide, by rw [hR]; decide, by rw [hR]; decide, by rw [hR]; decide⟩ (Nat.le_of_ble_eq_true rfl) ?_
    exact wMd_toStages_74 hR hl hk12 x0 x1 x2 x3 x5 S3 h
def fMd_toStages_53 (k12 : Nat → Int32 → Int32 → Int32 → Int32 → Int32 → Sx → Option (Sx)) (x0 : Nat) (x1 : Int32) (x5 : Int32) (S : Sx) : Option (Sx) :=
    fMd_toStages_60 k12 x0 (x1 + 1) 0 0 x5 S
set_option maxRecDepth 100000 in
set_option maxHeartbeats 4000000 in
theorem wMd_toStages_53 {Γ : vG} (hR : gR Γ = rMd_toStages) (hl : (gl Γ).flags = pinnedFlags ++ [noTraceFlag]) {X : Sx} {k12 : Nat → Int32 → Int32 → Int32 → Int32 → Int32 → Sx → Option (Sx)} (hk12 : ∀ (x0 : Nat) (x1 : Int32) (x2 : Int32) (x3 : Int32) (x4 : Int32) (x5 : Int32) (S : Sx), k12 x0 x1 x2 x3 x4 x5 S = some X → vV Γ tMd_toStages (mQ Γ 0 0 0 none X) S 0 0 12 [(0, .ref x0), (1, .int x1), (2, .int x2), (3, .int x3), (4, .int x4), (5, .int x5)] []) : ∀ (x0 : Nat) (x1 : Int32) (x5 : Int32) (S : Sx), fMd_toStages_53 k12 x0 x1 x5 S = some X → vV Γ tMd_toStages (mQ Γ 0 0 0 none X) S 0 0 53 [(0, .ref x0), (1, .int x1), (5, .int x5)] [] := by
  intro x0 x1 x5 S h
  unfold fMd_toStages_53 at h
  refine v_iinc (pc := 53) (j := 1) [(1, .int (x1 + 1)), (0, .ref x0), (5, .int x5)] (show decode (tC tMd_toStages) 53 = .ok (.iinc 1 1, 3) by decide +kernel) rfl rfl (by decide) rfl ?_
  refine v_iconst (pc := 56) (v := 0) (show decode (tC tMd_toStages) 56 = .ok (.iconst 0, 1) by decide +kernel) (by decide) ?_
  refine v_istore_n (pc := 57) [(2, .int 0), (1, .int (x1 + 1)), (0, .ref x0), (5, .int x5)] (show decode (tC tMd_toStages) 57 = .ok (.istore_n 2, 1) by decide +kernel) rfl (by decide) rfl ?_
  refine v_iconst (pc := 58) (v := 0) (show decode (tC tMd_toStages) 58 = .ok (.iconst 0, 1) by decide +kernel) (by decide) ?_
  refine v_istore_n (pc := 59) [(3, .int 0), (2, .int 0), (1, .int (x1 + 1)), (0, .ref x0), (5, .int x5)] (show decode (tC tMd_toStages) 59 = .ok (.istore_n 3, 1) by decide +kernel) rfl (by decide) rfl ?_
  refine v_sub [(0, .ref x0), (1, .int (x1 + 1)), (2, .int 0), (3, .int 0), (5, .int x5)] [3, 2, 1, 0, 4] rfl ?_
  exact wMd_toStages_60 hR hl hk12 x0 (x1 + 1) 0 0 x5 S h
def fMd_toStages_12  : Nat → Nat → Int32 → Int32 → Int32 → Int32 → Int32 → Sx → Option (Sx)
  | 0, _, _, _, _, _, _, _ => none
  | n + 1, x0, x1, x2, x3, x4, x5, S =>
    (gI S 12 5 x0).bind fun v1 =>
    if v1 ≤ x5 then
    ((pI S 12 6 x0 (x1 + 1)).bind fun S3 =>
    some S3)
    else
    ((ckd S x0 12).bind fun _ =>
    bd2 (fMd_reads x0 x5 S) fun r7 S8 =>
    (ckd S8 x0 12).bind fun _ =>
    bd2 (fMd_writes x0 x5 S8) fun r11 S12 =>
    if x2 = 3 then
    (fMd_toStages_53 (fun y0 y1 y2 y3 y4 y5 T => fMd_toStages_12 n y0 y1 y2 y3 y4 y5 T) x0 x1 x5 S12)
    else
    (if x4 = 0 then
    (if ((r7 ||| r11) &&& x3) = 0 then
    (fMd_toStages_60 (fun y0 y1 y2 y3 y4 y5 T => fMd_toStages_12 n y0 y1 y2 y3 y4 y5 T) x0 x1 x2 x3 x5 S12)
    else
    (fMd_toStages_53 (fun y0 y1 y2 y3 y4 y5 T => fMd_toStages_12 n y0 y1 y2 y3 y4 y5 T) x0 x1 x5 S12))
    else
    (fMd_toStages_53 (fun y0 y1 y2 y3 y4 y5 T => fMd_toStages_12 n y0 y1 y2 y3 y4 y5 T) x0 x1 x5 S12)))
set_option maxRecDepth 100000 in
set_option maxHeartbeats 4000000 in
theorem wMd_toStages_12 {Γ : vG} (hR : gR Γ = rMd_toStages) (hl : (gl Γ).flags = pinnedFlags ++ [noTraceFlag]) {X : Sx}  : ∀ (n : Nat) (x0 : Nat) (x1 : Int32) (x2 : Int32) (x3 : Int32) (x4 : Int32) (x5 : Int32) (S : Sx), fMd_toStages_12  n x0 x1 x2 x3 x4 x5 S = some X → vV Γ tMd_toStages (mQ Γ 0 0 0 none X) S 0 0 12 [(0, .ref x0), (1, .int x1), (2, .int x2), (3, .int x3), (4, .int x4), (5, .int x5)] [] := by
  intro n
  induction n with
  | zero => intro x0 x1 x2 x3 x4 x5 S h; rw [fMd_toStages_12] at h; cases h
  | succ n ih =>
    intro x0 x1 x2 x3 x4 x5 S h
    rw [fMd_toStages_12] at h
    refine v_iload (pc := 12) (show decode (tC tMd_toStages) 12 = .ok (.iload 5, 2) by decide +kernel) 5 rfl ?_
    refine v_aload_n (pc := 14) (show decode (tC tMd_toStages) 14 = .ok (.aload_n 0, 1) by decide +kernel) 0 rfl rfl ?_
    obtain ⟨v1, e2, h⟩ := ob h
    refine v_getI (pc := 15) oF_Md_198 (by decide) e2 (show decode (tC tMd_toStages) 15 = .ok (.getfield 198, 3) by decide +kernel) ?_
    refine v_icmp_ge (pc := 18) 117 (show decode (tC tMd_toStages) 18 = .ok (.if_icmp .ge 99, 3) by decide +kernel) (by decide) (fun c => ?_) (fun c => ?_)
    · replace h := ite_t c h
      refine v_aload_n (pc := 117) (show decode (tC tMd_toStages) 117 = .ok (.aload_n 0, 1) by decide +kernel) 0 rfl rfl ?_
      refine v_iload_n (pc := 118) (show decode (tC tMd_toStages) 118 = .ok (.iload_n 1, 1) by decide +kernel) 1 rfl rfl ?_
      refine v_iconst (pc := 119) (v := 1) (show decode (tC tMd_toStages) 119 = .ok (.iconst 1, 1) by decide +kernel) (by decide) ?_
      refine v_iadd (pc := 120) (show decode (tC tMd_toStages) 120 = .ok (.iadd, 1) by decide +kernel) ?_
      obtain ⟨S3, e4, h⟩ := ob h
      refine v_putI (pc := 121) oF_Md_201 (fin_ok (kd := 12) (k := 6) (by decide +kernel)) e4 (show decode (tC tMd_toStages) 121 = .ok (.putfield 201, 3) by decide +kernel) ?_
      obtain rfl := Option.some.inj h
      refine v_wide (ce2 := 0) (sl2 := 0) (by decide) (by decide) ?_
      exact v_vret (pc := 124) rfl (show decode (tC tMd_toStages) 124 = .ok (.return_, 1) by decide +kernel)
    · replace h := ite_f c h
      refine v_aload_n (pc := 21) (show decode (tC tMd_toStages) 21 = .ok (.aload_n 0, 1) by decide +kernel) 0 rfl rfl ?_
      refine v_iload (pc := 22) (show decode (tC tMd_toStages) 22 = .ok (.iload 5, 2) by decide +kernel) 5 rfl ?_
      obtain ⟨_, e6, h⟩ := ob h
      obtain ⟨r7, S8, e5, h⟩ := ob2 h
      refine v_call (pc := 24) (v := (some (.int r7))) (y := yMd_reads) (θ' := tMd_reads) (rm := rMd_reads) (av := [.ref x0, .int x5]) (st := []) (cMd_reads (l := gl Γ) hl e5) kMd_reads iMd_reads (iv_virt (y := yMd_reads) (θ' := tMd_reads) (kd := 12) (As := [.int x5]) rfl (ckd_of e6) kMd_reads (gT_in 1500 (by decide +kernel) rfl) nMd_reads lMd_reads mMd_reads rfl (show decode (tC tMd_toStages) 24 = .ok (.invokevirtual 265, 3) by decide +kernel)) ⟨by rw [hR]; decide, by rw [hR]; decide, by rw [hR]; decide, by rw [hR]; decide⟩ (Nat.le_of_ble_eq_true rfl) ?_
      refine v_aload_n (pc := 27) (show decode (tC tMd_toStages) 27 = .ok (.aload_n 0, 1) by decide +kernel) 0 rfl rfl ?_
      refine v_iload (pc := 28) (show decode (tC tMd_toStages) 28 = .ok (.iload 5, 2) by decide +kernel) 5 rfl ?_
      obtain ⟨_, e10, h⟩ := ob h
      obtain ⟨r11, S12, e9, h⟩ := ob2 h
      refine v_call (pc := 30) (v := (some (.int r11))) (y := yMd_writes) (θ' := tMd_writes) (rm := rMd_writes) (av := [.ref x0, .int x5]) (st := [.int r7]) (cMd_writes (l := gl Γ) hl e9) kMd_writes iMd_writes (iv_virt (y := yMd_writes) (θ' := tMd_writes) (kd := 12) (As := [.int x5]) rfl (ckd_of e10) kMd_writes (gT_in 1504 (by decide +kernel) rfl) nMd_writes lMd_writes mMd_writes rfl (show decode (tC tMd_toStages) 30 = .ok (.invokevirtual 269, 3) by decide +kernel)) ⟨by rw [hR]; decide, by rw [hR]; decide, by rw [hR]; decide, by rw [hR]; decide⟩ (Nat.le_of_ble_eq_true rfl) ?_
      refine v_ior (pc := 33) (show decode (tC tMd_toStages) 33 = .ok (.ior, 1) by decide +kernel) ?_
      refine v_istore (pc := 34) [(6, .int (r7 ||| r11)), (0, .ref x0), (1, .int x1), (2, .int x2), (3, .int x3), (4, .int x4), (5, .int x5)] (show decode (tC tMd_toStages) 34 = .ok (.istore 6, 2) by decide +kernel) (by decide) rfl ?_
      refine v_iload_n (pc := 36) (show decode (tC tMd_toStages) 36 = .ok (.iload_n 2, 1) by decide +kernel) 3 rfl rfl ?_
      refine v_iconst (pc := 37) (v := 3) (show decode (tC tMd_toStages) 37 = .ok (.iconst 3, 1) by decide +kernel) (by decide) ?_
      refine v_icmp_eq (pc := 38) 53 (show decode (tC tMd_toStages) 38 = .ok (.if_icmp .eq 15, 3) by decide +kernel) (by decide) (fun c => ?_) (fun c => ?_)
      · replace h := ite_t c h
        refine v_sub [(0, .ref x0), (1, .int x1), (5, .int x5)] [1, 2, 6] rfl ?_
        exact wMd_toStages_53 hR hl (fun y0 y1 y2 y3 y4 y5 T h => ih y0 y1 y2 y3 y4 y5 T h) x0 x1 x5 S12 h
      · replace h := ite_f c h
        refine v_iload (pc := 41) (show decode (tC tMd_toStages) 41 = .ok (.iload 4, 2) by decide +kernel) 5 rfl ?_
        refine v_if_ne (pc := 43) 53 (show decode (tC tMd_toStages) 43 = .ok (.ifCond .ne 10, 3) by decide +kernel) (by decide) (fun c => ?_) (fun c => ?_)
        · replace h := ite_f c h
          refine v_sub [(0, .ref x0), (1, .int x1), (5, .int x5)] [1, 2, 6] rfl ?_
          exact wMd_toStages_53 hR hl (fun y0 y1 y2 y3 y4 y5 T h => ih y0 y1 y2 y3 y4 y5 T h) x0 x1 x5 S12 h
        · replace h := ite_t c h
          refine v_iload (pc := 46) (show decode (tC tMd_toStages) 46 = .ok (.iload 6, 2) by decide +kernel) 0 rfl ?_
          refine v_iload_n (pc := 48) (show decode (tC tMd_toStages) 48 = .ok (.iload_n 3, 1) by decide +kernel) 4 rfl rfl ?_
          refine v_iand (pc := 49) (show decode (tC tMd_toStages) 49 = .ok (.iand, 1) by decide +kernel) ?_
          refine v_if_eq (pc := 50) 60 (show decode (tC tMd_toStages) 50 = .ok (.ifCond .eq 10, 3) by decide +kernel) (by decide) (fun c => ?_) (fun c => ?_)
          · replace h := ite_t c h
            refine v_sub [(0, .ref x0), (1, .int x1), (2, .int x2), (3, .int x3), (5, .int x5)] [1, 2, 3, 4, 6] rfl ?_
            exact wMd_toStages_60 hR hl (fun y0 y1 y2 y3 y4 y5 T h => ih y0 y1 y2 y3 y4 y5 T h) x0 x1 x2 x3 x5 S12 h
          · replace h := ite_f c h
            refine v_sub [(0, .ref x0), (1, .int x1), (5, .int x5)] [1, 2, 6] rfl ?_
            exact wMd_toStages_53 hR hl (fun y0 y1 y2 y3 y4 y5 T h => ih y0 y1 y2 y3 y4 y5 T h) x0 x1 x5 S12 h
def fMd_toStages (x0 : Nat) (S : Sx) : Option (Sx) :=
    fMd_toStages_12  fuel x0 0 0 0 0 0 S
set_option maxRecDepth 100000 in
set_option maxHeartbeats 4000000 in
theorem wMd_toStages {Γ : vG} (hR : gR Γ = rMd_toStages) (hl : (gl Γ).flags = pinnedFlags ++ [noTraceFlag]) (x0 : Nat) (S : Sx) {X : Sx} (h : fMd_toStages x0 S = some X) : vV Γ tMd_toStages (mQ Γ 0 0 0 none X) S 0 0 0 [(0, .ref x0)] [] := by
  unfold fMd_toStages at h
  refine v_iconst (pc := 0) (v := 0) (show decode (tC tMd_toStages) 0 = .ok (.iconst 0, 1) by decide +kernel) (by decide) ?_
  refine v_istore_n (pc := 1) [(1, .int 0), (0, .ref x0)] (show decode (tC tMd_toStages) 1 = .ok (.istore_n 1, 1) by decide +kernel) rfl (by decide) rfl ?_
  refine v_iconst (pc := 2) (v := 0) (show decode (tC tMd_toStages) 2 = .ok (.iconst 0, 1) by decide +kernel) (by decide) ?_
  refine v_istore_n (pc := 3) [(2, .int 0), (1, .int 0), (0, .ref x0)] (show decode (tC tMd_toStages) 3 = .ok (.istore_n 2, 1) by decide +kernel) rfl (by decide) rfl ?_
  refine v_iconst (pc := 4) (v := 0) (show decode (tC tMd_toStages) 4 = .ok (.iconst 0, 1) by decide +kernel) (by decide) ?_
  refine v_istore_n (pc := 5) [(3, .int 0), (2, .int 0), (1, .int 0), (0, .ref x0)] (show decode (tC tMd_toStages) 5 = .ok (.istore_n 3, 1) by decide +kernel) rfl (by decide) rfl ?_
  refine v_iconst (pc := 6) (v := 0) (show decode (tC tMd_toStages) 6 = .ok (.iconst 0, 1) by decide +kernel) (by decide) ?_
  refine v_istore (pc := 7) [(4, .int 0), (3, .int 0), (2, .int 0), (1, .int 0), (0, .ref x0)] (show decode (tC tMd_toStages) 7 = .ok (.istore 4, 2) by decide +kernel) (by decide) rfl ?_
  refine v_iconst (pc := 9) (v := 0) (show decode (tC tMd_toStages) 9 = .ok (.iconst 0, 1) by decide +kernel) (by decide) ?_
  refine v_istore (pc := 10) [(5, .int 0), (4, .int 0), (3, .int 0), (2, .int 0), (1, .int 0), (0, .ref x0)] (show decode (tC tMd_toStages) 10 = .ok (.istore 5, 2) by decide +kernel) (by decide) rfl ?_
  refine v_sub [(0, .ref x0), (1, .int 0), (2, .int 0), (3, .int 0), (4, .int 0), (5, .int 0)] [5, 4, 3, 2, 1, 0] rfl ?_
  exact wMd_toStages_12 hR hl  fuel x0 0 0 0 0 0 S h
theorem cMd_toStages {l : Launch} (hl : l.flags = pinnedFlags ++ [noTraceFlag]) {D : va_G} {dA : Nat → ClassId} {B : Nat} {x0 : Nat} {S : Sx} {X : Sx} (h : fMd_toStages x0 S = some X) : Mx l yMd_toStages tMd_toStages rMd_toStages 0 0 D dA B S [.ref x0] 0 none X :=
  mx_of hl (by decide) rfl rfl (Nat.le_of_ble_eq_true rfl) (fun Γ e1 e2 e3 e4 e5 => by subst e1; subst e3; subst e4; subst e5; exact wMd_toStages e2 hl x0 S h)
/-! MatchPipeModel.lay()I -/
def yMd_lay : MethodName := ⟨"MatchPipeModel", "lay", "()I"⟩
def tMd_lay : tM := (prog_14_method_23_code, "MatchPipeModel", 1, "lay", some .int, [])
def rMd_lay : Room := { frames := 3, cells := 0, slots := 0, locals := 71 }
theorem kMd_lay : cOf yMd_lay tMd_lay ∈ gT := gT_in 1475 (by decide +kernel) rfl
theorem iMd_lay : Cond.initialized yMd_lay.cls ∈ gT := gT_in 68 (by decide +kernel) rfl
theorem mMd_lay : okM yMd_lay 0 := ⟨by decide, by decide, by unfold nPar; decide +kernel⟩
theorem nMd_lay : Cond.instanceMethod yMd_lay ∈ gT := gT_in 1473 (by decide +kernel) rfl
theorem lMd_lay : Cond.selects "MatchPipeModel" yMd_lay yMd_lay ∈ gT := gT_in 1474 (by decide +kernel) rfl
def fMd_lay_63  (x0 : Nat) (z0 : Int32) (z1 : Nat) (S : Sx) : Option (Int32 × Sx) :=
    (pI S 12 0 z1 z0).bind fun S1 =>
    (gI S1 12 0 x0).bind fun v3 =>
    if v3 ≤ 0 then
    ((pZ S1 12 7 x0 1).bind fun S5 =>
    (gI S5 12 6 x0).bind fun v7 =>
    some (v7, S5))
    else
    (some (0, S1))
set_option maxRecDepth 100000 in
set_option maxHeartbeats 4000000 in
theorem wMd_lay_63 {Γ : vG} (hR : gR Γ = rMd_lay) (hl : (gl Γ).flags = pinnedFlags ++ [noTraceFlag]) {X : Int32 × Sx}  : ∀ (x0 : Nat) (z0 : Int32) (z1 : Nat) (S : Sx), fMd_lay_63  x0 z0 z1 S = some X → vV Γ tMd_lay (mQ Γ 0 0 0 (some (.int X.1)) X.2) S 0 0 63 [(0, .ref x0)] [.int z0, .ref z1] := by
  intro x0 z0 z1 S h
  unfold fMd_lay_63 at h
  obtain ⟨S1, e2, h⟩ := ob h
  refine v_putI (pc := 63) oF_Md_183 (fin_ok (kd := 12) (k := 0) (by decide +kernel)) e2 (show decode (tC tMd_lay) 63 = .ok (.putfield 183, 3) by decide +kernel) ?_
  refine v_aload_n (pc := 66) (show decode (tC tMd_lay) 66 = .ok (.aload_n 0, 1) by decide +kernel) 0 rfl rfl ?_
  obtain ⟨v3, e4, h⟩ := ob h
  refine v_getI (pc := 67) oF_Md_183 (by decide) e4 (show decode (tC tMd_lay) 67 = .ok (.getfield 183, 3) by decide +kernel) ?_
  refine v_if_le (pc := 70) 75 (show decode (tC tMd_lay) 70 = .ok (.ifCond .le 5, 3) by decide +kernel) (by decide) (fun c => ?_) (fun c => ?_)
  · replace h := ite_t c h
    refine v_aload_n (pc := 75) (show decode (tC tMd_lay) 75 = .ok (.aload_n 0, 1) by decide +kernel) 0 rfl rfl ?_
    refine v_iconst (pc := 76) (v := 1) (show decode (tC tMd_lay) 76 = .ok (.iconst 1, 1) by decide +kernel) (by decide) ?_
    obtain ⟨S5, e6, h⟩ := ob h
    refine v_putZ (pc := 77) oF_Md_204 (fin_ok (kd := 12) (k := 7) (by decide +kernel)) e6 (show decode (tC tMd_lay) 77 = .ok (.putfield 204, 3) by decide +kernel) ?_
    refine v_aload_n (pc := 80) (show decode (tC tMd_lay) 80 = .ok (.aload_n 0, 1) by decide +kernel) 0 rfl rfl ?_
    obtain ⟨v7, e8, h⟩ := ob h
    refine v_getI (pc := 81) oF_Md_201 (by decide) e8 (show decode (tC tMd_lay) 81 = .ok (.getfield 201, 3) by decide +kernel) ?_
    obtain rfl := Option.some.inj h
    refine v_wide (ce2 := 0) (sl2 := 0) (by decide) (by decide) ?_
    exact v_iret (pc := 84) rfl (show decode (tC tMd_lay) 84 = .ok (.ireturn, 1) by decide +kernel)
  · replace h := ite_f c h
    refine v_iconst (pc := 73) (v := 0) (show decode (tC tMd_lay) 73 = .ok (.iconst 0, 1) by decide +kernel) (by decide) ?_
    obtain rfl := Option.some.inj h
    refine v_wide (ce2 := 0) (sl2 := 0) (by decide) (by decide) ?_
    exact v_iret (pc := 74) rfl (show decode (tC tMd_lay) 74 = .ok (.ireturn, 1) by decide +kernel)
def fMd_lay_50  (x0 : Nat) (S : Sx) : Option (Int32 × Sx) :=
    (gI S 12 33 x0).bind fun v1 =>
    if v1 ≤ 0 then
    (fMd_lay_63  x0 0 x0 S)
    else
    (fMd_lay_63  x0 2 x0 S)
set_option maxRecDepth 100000 in
set_option maxHeartbeats 4000000 in
theorem wMd_lay_50 {Γ : vG} (hR : gR Γ = rMd_lay) (hl : (gl Γ).flags = pinnedFlags ++ [noTraceFlag]) {X : Int32 × Sx}  : ∀ (x0 : Nat) (S : Sx), fMd_lay_50  x0 S = some X → vV Γ tMd_lay (mQ Γ 0 0 0 (some (.int X.1)) X.2) S 0 0 50 [(0, .ref x0)] [] := by
  intro x0 S h
  unfold fMd_lay_50 at h
  refine v_aload_n (pc := 50) (show decode (tC tMd_lay) 50 = .ok (.aload_n 0, 1) by decide +kernel) 0 rfl rfl ?_
  refine v_aload_n (pc := 51) (show decode (tC tMd_lay) 51 = .ok (.aload_n 0, 1) by decide +kernel) 0 rfl rfl ?_
  obtain ⟨v1, e2, h⟩ := ob h
  refine v_getI (pc := 52) oF_Md_208 (by decide) e2 (show decode (tC tMd_lay) 52 = .ok (.getfield 208, 3) by decide +kernel) ?_
  refine v_if_le (pc := 55) 62 (show decode (tC tMd_lay) 55 = .ok (.ifCond .le 7, 3) by decide +kernel) (by decide) (fun c => ?_) (fun c => ?_)
  · replace h := ite_t c h
    refine v_iconst (pc := 62) (v := 0) (show decode (tC tMd_lay) 62 = .ok (.iconst 0, 1) by decide +kernel) (by decide) ?_
    exact wMd_lay_63 hR hl  x0 0 x0 S h
  · replace h := ite_f c h
    refine v_iconst (pc := 58) (v := 2) (show decode (tC tMd_lay) 58 = .ok (.iconst 2, 1) by decide +kernel) (by decide) ?_
    refine v_goto (pc := 59) 63 (show decode (tC tMd_lay) 59 = .ok (.goto 4, 3) by decide +kernel) (by decide) ?_
    exact wMd_lay_63 hR hl  x0 2 x0 S h
def fMd_lay_13  (x0 : Nat) (z0 : Int32) (z1 : Nat) (S : Sx) : Option (Int32 × Sx) :=
    (pI S 12 0 z1 z0).bind fun S1 =>
    (gI S1 12 0 x0).bind fun v3 =>
    if v3 ≤ 0 then
    ((pI S1 12 33 x0 0).bind fun S5 =>
    (pI S5 12 34 x0 (-1)).bind fun S7 =>
    (ckd S7 x0 12).bind fun _ =>
    (fMd_check x0 S7).bind fun S11 =>
    (gI S11 12 33 x0).bind fun v12 =>
    if v12 = 0 then
    ((ckd S11 x0 12).bind fun _ =>
    (fMd_toStages x0 S11).bind fun S16 =>
    fMd_lay_50  x0 S16)
    else
    (fMd_lay_50  x0 S11))
    else
    (some (0, S1))
set_option maxRecDepth 100000 in
set_option maxHeartbeats 4000000 in
theorem wMd_lay_13 {Γ : vG} (hR : gR Γ = rMd_lay) (hl : (gl Γ).flags = pinnedFlags ++ [noTraceFlag]) {X : Int32 × Sx}  : ∀ (x0 : Nat) (z0 : Int32) (z1 : Nat) (S : Sx), fMd_lay_13  x0 z0 z1 S = some X → vV Γ tMd_lay (mQ Γ 0 0 0 (some (.int X.1)) X.2) S 0 0 13 [(0, .ref x0)] [.int z0, .ref z1] := by
  intro x0 z0 z1 S h
  unfold fMd_lay_13 at h
  obtain ⟨S1, e2, h⟩ := ob h
  refine v_putI (pc := 13) oF_Md_183 (fin_ok (kd := 12) (k := 0) (by decide +kernel)) e2 (show decode (tC tMd_lay) 13 = .ok (.putfield 183, 3) by decide +kernel) ?_
  refine v_aload_n (pc := 16) (show decode (tC tMd_lay) 16 = .ok (.aload_n 0, 1) by decide +kernel) 0 rfl rfl ?_
  obtain ⟨v3, e4, h⟩ := ob h
  refine v_getI (pc := 17) oF_Md_183 (by decide) e4 (show decode (tC tMd_lay) 17 = .ok (.getfield 183, 3) by decide +kernel) ?_
  refine v_if_le (pc := 20) 25 (show decode (tC tMd_lay) 20 = .ok (.ifCond .le 5, 3) by decide +kernel) (by decide) (fun c => ?_) (fun c => ?_)
  · replace h := ite_t c h
    refine v_aload_n (pc := 25) (show decode (tC tMd_lay) 25 = .ok (.aload_n 0, 1) by decide +kernel) 0 rfl rfl ?_
    refine v_iconst (pc := 26) (v := 0) (show decode (tC tMd_lay) 26 = .ok (.iconst 0, 1) by decide +kernel) (by decide) ?_
    obtain ⟨S5, e6, h⟩ := ob h
    refine v_putI (pc := 27) oF_Md_208 (fin_ok (kd := 12) (k := 33) (by decide +kernel)) e6 (show decode (tC tMd_lay) 27 = .ok (.putfield 208, 3) by decide +kernel) ?_
    refine v_aload_n (pc := 30) (show decode (tC tMd_lay) 30 = .ok (.aload_n 0, 1) by decide +kernel) 0 rfl rfl ?_
    refine v_iconst (pc := 31) (v := (-1)) (show decode (tC tMd_lay) 31 = .ok (.iconst (-1), 1) by decide +kernel) (by decide) ?_
    obtain ⟨S7, e8, h⟩ := ob h
    refine v_putI (pc := 32) oF_Md_85 (fin_ok (kd := 12) (k := 34) (by decide +kernel)) e8 (show decode (tC tMd_lay) 32 = .ok (.putfield 85, 3) by decide +kernel) ?_
    refine v_aload_n (pc := 35) (show decode (tC tMd_lay) 35 = .ok (.aload_n 0, 1) by decide +kernel) 0 rfl rfl ?_
    obtain ⟨_, e10, h⟩ := ob h
    obtain ⟨S11, e9, h⟩ := ob h
    refine v_call (pc := 36) (v := none) (y := yMd_check) (θ' := tMd_check) (rm := rMd_check) (av := [.ref x0]) (st := []) (cMd_check (l := gl Γ) hl e9) kMd_check iMd_check (iv_virt (y := yMd_check) (θ' := tMd_check) (kd := 12) (As := []) rfl (ckd_of e10) kMd_check (gT_in 1476 (by decide +kernel) rfl) nMd_check lMd_check mMd_check rfl (show decode (tC tMd_lay) 36 = .ok (.invokevirtual 272, 3) by decide +kernel)) ⟨by rw [hR]; decide, by rw [hR]; decide, by rw [hR]; decide, by rw [hR]; decide⟩ (Nat.le_of_ble_eq_true rfl) ?_
    refine v_aload_n (pc := 39) (show decode (tC tMd_lay) 39 = .ok (.aload_n 0, 1) by decide +kernel) 0 rfl rfl ?_
    obtain ⟨v12, e13, h⟩ := ob h
    refine v_getI (pc := 40) oF_Md_208 (by decide) e13 (show decode (tC tMd_lay) 40 = .ok (.getfield 208, 3) by decide +kernel) ?_
    refine v_if_ne (pc := 43) 50 (show decode (tC tMd_lay) 43 = .ok (.ifCond .ne 7, 3) by decide +kernel) (by decide) (fun c => ?_) (fun c => ?_)
    · replace h := ite_f c h
      exact wMd_lay_50 hR hl  x0 S11 h
    · replace h := ite_t c h
      refine v_aload_n (pc := 46) (show decode (tC tMd_lay) 46 = .ok (.aload_n 0, 1) by decide +kernel) 0 rfl rfl ?_
      obtain ⟨_, e15, h⟩ := ob h
      obtain ⟨S16, e14, h⟩ := ob h
      refine v_call (pc := 47) (v := none) (y := yMd_toStages) (θ' := tMd_toStages) (rm := rMd_toStages) (av := [.ref x0]) (st := []) (cMd_toStages (l := gl Γ) hl e14) kMd_toStages iMd_toStages (iv_virt (y := yMd_toStages) (θ' := tMd_toStages) (kd := 12) (As := []) rfl (ckd_of e15) kMd_toStages (gT_in 1496 (by decide +kernel) rfl) nMd_toStages lMd_toStages mMd_toStages rfl (show decode (tC tMd_lay) 47 = .ok (.invokevirtual 275, 3) by decide +kernel)) ⟨by rw [hR]; decide, by rw [hR]; decide, by rw [hR]; decide, by rw [hR]; decide⟩ (Nat.le_of_ble_eq_true rfl) ?_
      exact wMd_lay_50 hR hl  x0 S16 h
  · replace h := ite_f c h
    refine v_iconst (pc := 23) (v := 0) (show decode (tC tMd_lay) 23 = .ok (.iconst 0, 1) by decide +kernel) (by decide) ?_
    obtain rfl := Option.some.inj h
    refine v_wide (ce2 := 0) (sl2 := 0) (by decide) (by decide) ?_
    exact v_iret (pc := 24) rfl (show decode (tC tMd_lay) 24 = .ok (.ireturn, 1) by decide +kernel)
def fMd_lay (x0 : Nat) (S : Sx) : Option (Int32 × Sx) :=
    (gI S 12 7 x0).bind fun v1 =>
    if v1 = 0 then
    (fMd_lay_13  x0 0 x0 S)
    else
    (fMd_lay_13  x0 1 x0 S)
set_option maxRecDepth 100000 in
set_option maxHeartbeats 4000000 in
theorem wMd_lay {Γ : vG} (hR : gR Γ = rMd_lay) (hl : (gl Γ).flags = pinnedFlags ++ [noTraceFlag]) (x0 : Nat) (S : Sx) {X : Int32 × Sx} (h : fMd_lay x0 S = some X) : vV Γ tMd_lay (mQ Γ 0 0 0 (some (.int X.1)) X.2) S 0 0 0 [(0, .ref x0)] [] := by
  unfold fMd_lay at h
  refine v_aload_n (pc := 0) (show decode (tC tMd_lay) 0 = .ok (.aload_n 0, 1) by decide +kernel) 0 rfl rfl ?_
  refine v_aload_n (pc := 1) (show decode (tC tMd_lay) 1 = .ok (.aload_n 0, 1) by decide +kernel) 0 rfl rfl ?_
  obtain ⟨v1, e2, h⟩ := ob h
  refine v_getI (pc := 2) oF_Md_204 (by decide) e2 (show decode (tC tMd_lay) 2 = .ok (.getfield 204, 3) by decide +kernel) ?_
  refine v_if_eq (pc := 5) 12 (show decode (tC tMd_lay) 5 = .ok (.ifCond .eq 7, 3) by decide +kernel) (by decide) (fun c => ?_) (fun c => ?_)
  · replace h := ite_t c h
    refine v_iconst (pc := 12) (v := 0) (show decode (tC tMd_lay) 12 = .ok (.iconst 0, 1) by decide +kernel) (by decide) ?_
    exact wMd_lay_13 hR hl  x0 0 x0 S h
  · replace h := ite_f c h
    refine v_iconst (pc := 8) (v := 1) (show decode (tC tMd_lay) 8 = .ok (.iconst 1, 1) by decide +kernel) (by decide) ?_
    refine v_goto (pc := 9) 13 (show decode (tC tMd_lay) 9 = .ok (.goto 4, 3) by decide +kernel) (by decide) ?_
    exact wMd_lay_13 hR hl  x0 1 x0 S h
theorem cMd_lay {l : Launch} (hl : l.flags = pinnedFlags ++ [noTraceFlag]) {D : va_G} {dA : Nat → ClassId} {B : Nat} {x0 : Nat} {S : Sx} {X : Int32 × Sx} (h : fMd_lay x0 S = some X) : Mx l yMd_lay tMd_lay rMd_lay 0 0 D dA B S [.ref x0] 0 (some (.int X.1)) X.2 :=
  mx_of hl (by decide) rfl rfl (Nat.le_of_ble_eq_true rfl) (fun Γ e1 e2 e3 e4 e5 => by subst e1; subst e3; subst e4; subst e5; exact wMd_lay e2 hl x0 S h)
/-! MatchPipeModel.fault(I)I -/
def yMd_fault : MethodName := ⟨"MatchPipeModel", "fault", "(I)I"⟩
def tMd_fault : tM := (prog_14_method_24_code, "MatchPipeModel", 2, "fault", some .int, [])
def rMd_fault : Room := { frames := 0, cells := 0, slots := 0, locals := 0 }
theorem kMd_fault : cOf yMd_fault tMd_fault ∈ gT := gT_in 1513 (by decide +kernel) rfl
theorem iMd_fault : Cond.initialized yMd_fault.cls ∈ gT := gT_in 68 (by decide +kernel) rfl
theorem mMd_fault : okM yMd_fault 1 := ⟨by decide, by decide, by unfold nPar; decide +kernel⟩
theorem nMd_fault : Cond.instanceMethod yMd_fault ∈ gT := gT_in 1511 (by decide +kernel) rfl
theorem lMd_fault : Cond.selects "MatchPipeModel" yMd_fault yMd_fault ∈ gT := gT_in 1512 (by decide +kernel) rfl
def fMd_fault (x0 : Nat) (x1 : Int32) (S : Sx) : Option (Int32 × Sx) :=
    (pI S 12 0 x0 0).bind fun S1 =>
    if x1 = 0 then
    ((gI S1 12 33 x0).bind fun v5 =>
    some (v5, S1))
    else
    (if x1 = 1 then
    ((gI S1 12 34 x0).bind fun v3 =>
    some (v3, S1))
    else
    (some ((-1), S1)))
set_option maxRecDepth 100000 in
set_option maxHeartbeats 4000000 in
theorem wMd_fault {Γ : vG} (hR : gR Γ = rMd_fault) (hl : (gl Γ).flags = pinnedFlags ++ [noTraceFlag]) (x0 : Nat) (x1 : Int32) (S : Sx) {X : Int32 × Sx} (h : fMd_fault x0 x1 S = some X) : vV Γ tMd_fault (mQ Γ 0 0 0 (some (.int X.1)) X.2) S 0 0 0 [(0, .ref x0), (1, .int x1)] [] := by
  unfold fMd_fault at h
  refine v_aload_n (pc := 0) (show decode (tC tMd_fault) 0 = .ok (.aload_n 0, 1) by decide +kernel) 0 rfl rfl ?_
  refine v_iconst (pc := 1) (v := 0) (show decode (tC tMd_fault) 1 = .ok (.iconst 0, 1) by decide +kernel) (by decide) ?_
  obtain ⟨S1, e2, h⟩ := ob h
  refine v_putI (pc := 2) oF_Md_183 (fin_ok (kd := 12) (k := 0) (by decide +kernel)) e2 (show decode (tC tMd_fault) 2 = .ok (.putfield 183, 3) by decide +kernel) ?_
  refine v_iload_n (pc := 5) (show decode (tC tMd_fault) 5 = .ok (.iload_n 1, 1) by decide +kernel) 1 rfl rfl ?_
  refine v_if_ne (pc := 6) 16 (show decode (tC tMd_fault) 6 = .ok (.ifCond .ne 10, 3) by decide +kernel) (by decide) (fun c => ?_) (fun c => ?_)
  · replace h := ite_f c h
    refine v_iload_n (pc := 16) (show decode (tC tMd_fault) 16 = .ok (.iload_n 1, 1) by decide +kernel) 1 rfl rfl ?_
    refine v_iconst (pc := 17) (v := 1) (show decode (tC tMd_fault) 17 = .ok (.iconst 1, 1) by decide +kernel) (by decide) ?_
    refine v_icmp_ne (pc := 18) 28 (show decode (tC tMd_fault) 18 = .ok (.if_icmp .ne 10, 3) by decide +kernel) (by decide) (fun c => ?_) (fun c => ?_)
    · replace h := ite_f c h
      refine v_iconst (pc := 28) (v := (-1)) (show decode (tC tMd_fault) 28 = .ok (.iconst (-1), 1) by decide +kernel) (by decide) ?_
      obtain rfl := Option.some.inj h
      refine v_wide (ce2 := 0) (sl2 := 0) (by decide) (by decide) ?_
      exact v_iret (pc := 29) rfl (show decode (tC tMd_fault) 29 = .ok (.ireturn, 1) by decide +kernel)
    · replace h := ite_t c h
      refine v_aload_n (pc := 21) (show decode (tC tMd_fault) 21 = .ok (.aload_n 0, 1) by decide +kernel) 0 rfl rfl ?_
      obtain ⟨v3, e4, h⟩ := ob h
      refine v_getI (pc := 22) oF_Md_85 (by decide) e4 (show decode (tC tMd_fault) 22 = .ok (.getfield 85, 3) by decide +kernel) ?_
      refine v_goto (pc := 25) 29 (show decode (tC tMd_fault) 25 = .ok (.goto 4, 3) by decide +kernel) (by decide) ?_
      obtain rfl := Option.some.inj h
      refine v_wide (ce2 := 0) (sl2 := 0) (by decide) (by decide) ?_
      exact v_iret (pc := 29) rfl (show decode (tC tMd_fault) 29 = .ok (.ireturn, 1) by decide +kernel)
  · replace h := ite_t c h
    refine v_aload_n (pc := 9) (show decode (tC tMd_fault) 9 = .ok (.aload_n 0, 1) by decide +kernel) 0 rfl rfl ?_
    obtain ⟨v5, e6, h⟩ := ob h
    refine v_getI (pc := 10) oF_Md_208 (by decide) e6 (show decode (tC tMd_fault) 10 = .ok (.getfield 208, 3) by decide +kernel) ?_
    refine v_goto (pc := 13) 29 (show decode (tC tMd_fault) 13 = .ok (.goto 16, 3) by decide +kernel) (by decide) ?_
    obtain rfl := Option.some.inj h
    refine v_wide (ce2 := 0) (sl2 := 0) (by decide) (by decide) ?_
    exact v_iret (pc := 29) rfl (show decode (tC tMd_fault) 29 = .ok (.ireturn, 1) by decide +kernel)
theorem cMd_fault {l : Launch} (hl : l.flags = pinnedFlags ++ [noTraceFlag]) {D : va_G} {dA : Nat → ClassId} {B : Nat} {x0 : Nat} {x1 : Int32} {S : Sx} {X : Int32 × Sx} (h : fMd_fault x0 x1 S = some X) : Mx l yMd_fault tMd_fault rMd_fault 0 0 D dA B S [.ref x0, .int x1] 0 (some (.int X.1)) X.2 :=
  mx_of hl (by decide) rfl rfl (Nat.le_of_ble_eq_true rfl) (fun Γ e1 e2 e3 e4 e5 => by subst e1; subst e3; subst e4; subst e5; exact wMd_fault e2 hl x0 x1 S h)
/-! MatchPipeModel.stage(I)I -/
def yMd_stage : MethodName := ⟨"MatchPipeModel", "stage", "(I)I"⟩
def tMd_stage : tM := (prog_14_method_25_code, "MatchPipeModel", 2, "stage", some .int, [])
def rMd_stage : Room := { frames := 1, cells := 0, slots := 0, locals := 21 }
theorem kMd_stage : cOf yMd_stage tMd_stage ∈ gT := gT_in 1517 (by decide +kernel) rfl
theorem iMd_stage : Cond.initialized yMd_stage.cls ∈ gT := gT_in 68 (by decide +kernel) rfl
theorem mMd_stage : okM yMd_stage 1 := ⟨by decide, by decide, by unfold nPar; decide +kernel⟩
theorem nMd_stage : Cond.instanceMethod yMd_stage ∈ gT := gT_in 1515 (by decide +kernel) rfl
theorem lMd_stage : Cond.selects "MatchPipeModel" yMd_stage yMd_stage ∈ gT := gT_in 1516 (by decide +kernel) rfl
def fMd_stage (x0 : Nat) (x1 : Int32) (S : Sx) : Option (Int32 × Sx) :=
    (pI S 12 0 x0 0).bind fun S1 =>
    (gI S1 12 7 x0).bind fun v3 =>
    if v3 = 0 then
    (some ((-1), S1))
    else
    ((gI S1 12 5 x0).bind fun v5 =>
    bd2 (fMd_in x1 v5 S1) fun r8 S9 =>
    if r8 = 0 then
    (some ((-1), S9))
    else
    ((gX S9 12 32 x0).bind fun v10 =>
    (aI S9 v10 x1).bind fun v12 =>
    some (v12, S9)))
set_option maxRecDepth 100000 in
set_option maxHeartbeats 4000000 in
theorem wMd_stage {Γ : vG} (hR : gR Γ = rMd_stage) (hl : (gl Γ).flags = pinnedFlags ++ [noTraceFlag]) (x0 : Nat) (x1 : Int32) (S : Sx) {X : Int32 × Sx} (h : fMd_stage x0 x1 S = some X) : vV Γ tMd_stage (mQ Γ 0 0 0 (some (.int X.1)) X.2) S 0 0 0 [(0, .ref x0), (1, .int x1)] [] := by
  unfold fMd_stage at h
  refine v_aload_n (pc := 0) (show decode (tC tMd_stage) 0 = .ok (.aload_n 0, 1) by decide +kernel) 0 rfl rfl ?_
  refine v_iconst (pc := 1) (v := 0) (show decode (tC tMd_stage) 1 = .ok (.iconst 0, 1) by decide +kernel) (by decide) ?_
  obtain ⟨S1, e2, h⟩ := ob h
  refine v_putI (pc := 2) oF_Md_183 (fin_ok (kd := 12) (k := 0) (by decide +kernel)) e2 (show decode (tC tMd_stage) 2 = .ok (.putfield 183, 3) by decide +kernel) ?_
  refine v_aload_n (pc := 5) (show decode (tC tMd_stage) 5 = .ok (.aload_n 0, 1) by decide +kernel) 0 rfl rfl ?_
  obtain ⟨v3, e4, h⟩ := ob h
  refine v_getI (pc := 6) oF_Md_204 (by decide) e4 (show decode (tC tMd_stage) 6 = .ok (.getfield 204, 3) by decide +kernel) ?_
  refine v_if_eq (pc := 9) 32 (show decode (tC tMd_stage) 9 = .ok (.ifCond .eq 23, 3) by decide +kernel) (by decide) (fun c => ?_) (fun c => ?_)
  · replace h := ite_t c h
    refine v_iconst (pc := 32) (v := (-1)) (show decode (tC tMd_stage) 32 = .ok (.iconst (-1), 1) by decide +kernel) (by decide) ?_
    obtain rfl := Option.some.inj h
    refine v_wide (ce2 := 0) (sl2 := 0) (by decide) (by decide) ?_
    exact v_iret (pc := 33) rfl (show decode (tC tMd_stage) 33 = .ok (.ireturn, 1) by decide +kernel)
  · replace h := ite_f c h
    refine v_iload_n (pc := 12) (show decode (tC tMd_stage) 12 = .ok (.iload_n 1, 1) by decide +kernel) 1 rfl rfl ?_
    refine v_aload_n (pc := 13) (show decode (tC tMd_stage) 13 = .ok (.aload_n 0, 1) by decide +kernel) 0 rfl rfl ?_
    obtain ⟨v5, e6, h⟩ := ob h
    refine v_getI (pc := 14) oF_Md_198 (by decide) e6 (show decode (tC tMd_stage) 14 = .ok (.getfield 198, 3) by decide +kernel) ?_
    obtain ⟨r8, S9, e7, h⟩ := ob2 h
    refine v_call (pc := 17) (v := (some (.int r8))) (y := yMd_in) (θ' := tMd_in) (rm := rMd_in) (av := [.int x1, .int v5]) (st := []) (cMd_in (l := gl Γ) hl e7) kMd_in iMd_in (iv_static (y := yMd_in) (θ' := tMd_in) (n := 2) (As := [.int x1, .int v5]) kMd_in (gT_in 1437 (by decide +kernel) rfl) sMd_in iMd_in mMd_in rfl (show decode (tC tMd_stage) 17 = .ok (.invokestatic 241, 3) by decide +kernel)) ⟨by rw [hR]; decide, by rw [hR]; decide, by rw [hR]; decide, by rw [hR]; decide⟩ (Nat.le_of_ble_eq_true rfl) ?_
    refine v_if_eq (pc := 20) 32 (show decode (tC tMd_stage) 20 = .ok (.ifCond .eq 12, 3) by decide +kernel) (by decide) (fun c => ?_) (fun c => ?_)
    · replace h := ite_t c h
      refine v_iconst (pc := 32) (v := (-1)) (show decode (tC tMd_stage) 32 = .ok (.iconst (-1), 1) by decide +kernel) (by decide) ?_
      obtain rfl := Option.some.inj h
      refine v_wide (ce2 := 0) (sl2 := 0) (by decide) (by decide) ?_
      exact v_iret (pc := 33) rfl (show decode (tC tMd_stage) 33 = .ok (.ireturn, 1) by decide +kernel)
    · replace h := ite_f c h
      refine v_aload_n (pc := 23) (show decode (tC tMd_stage) 23 = .ok (.aload_n 0, 1) by decide +kernel) 0 rfl rfl ?_
      obtain ⟨v10, e11, h⟩ := ob h
      refine v_getX (pc := 24) oF_Md_82 e11 (show decode (tC tMd_stage) 24 = .ok (.getfield 82, 3) by decide +kernel) ?_
      refine v_iload_n (pc := 27) (show decode (tC tMd_stage) 27 = .ok (.iload_n 1, 1) by decide +kernel) 1 rfl rfl ?_
      obtain ⟨v12, e13, h⟩ := ob h
      refine v_iald (pc := 28) e13 (show decode (tC tMd_stage) 28 = .ok (.iaload, 1) by decide +kernel) ?_
      refine v_goto (pc := 29) 33 (show decode (tC tMd_stage) 29 = .ok (.goto 4, 3) by decide +kernel) (by decide) ?_
      obtain rfl := Option.some.inj h
      refine v_wide (ce2 := 0) (sl2 := 0) (by decide) (by decide) ?_
      exact v_iret (pc := 33) rfl (show decode (tC tMd_stage) 33 = .ok (.ireturn, 1) by decide +kernel)
theorem cMd_stage {l : Launch} (hl : l.flags = pinnedFlags ++ [noTraceFlag]) {D : va_G} {dA : Nat → ClassId} {B : Nat} {x0 : Nat} {x1 : Int32} {S : Sx} {X : Int32 × Sx} (h : fMd_stage x0 x1 S = some X) : Mx l yMd_stage tMd_stage rMd_stage 0 0 D dA B S [.ref x0, .int x1] 0 (some (.int X.1)) X.2 :=
  mx_of hl (by decide) rfl rfl (Nat.le_of_ble_eq_true rfl) (fun Γ e1 e2 e3 e4 e5 => by subst e1; subst e3; subst e4; subst e5; exact wMd_stage e2 hl x0 x1 S h)
