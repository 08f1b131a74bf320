theorem oF_Li_12 : okF "MatchPipe$Line" 12 8 0 1 := ⟨_, rfl, by decide, gT_in 464 (by decide +kernel) rfl, rfl⟩
theorem oF_Li_21 : okF "MatchPipe$Line" 21 8 1 1 := ⟨_, rfl, by decide, gT_in 466 (by decide +kernel) rfl, rfl⟩
theorem oF_Li_27 : okF "MatchPipe$Line" 27 8 2 1 := ⟨_, rfl, by decide, gT_in 468 (by decide +kernel) rfl, rfl⟩
theorem oF_Li_33 : okF "MatchPipe$Line" 33 8 3 1 := ⟨_, rfl, by decide, gT_in 469 (by decide +kernel) rfl, rfl⟩
theorem oF_Li_37 : okF "MatchPipe$Line" 37 8 4 1 := ⟨_, rfl, by decide, gT_in 470 (by decide +kernel) rfl, rfl⟩
theorem oF_Li_41 : okF "MatchPipe$Line" 41 8 5 1 := ⟨_, rfl, by decide, gT_in 471 (by decide +kernel) rfl, rfl⟩
theorem oF_Li_52 : okF "MatchPipe$Line" 52 8 6 0 := ⟨_, rfl, by decide, gT_in 473 (by decide +kernel) rfl, rfl⟩
theorem oF_Li_56 : okF "MatchPipe$Line" 56 8 7 0 := ⟨_, rfl, by decide, gT_in 475 (by decide +kernel) rfl, rfl⟩
theorem oF_Li_59 : okF "MatchPipe$Line" 59 8 8 0 := ⟨_, rfl, by decide, gT_in 476 (by decide +kernel) rfl, rfl⟩
theorem oF_Li_62 : okF "MatchPipe$Line" 62 8 9 0 := ⟨_, rfl, by decide, gT_in 478 (by decide +kernel) rfl, rfl⟩
theorem oF_Li_69 : okF "MatchPipe$Line" 69 7 4 0 := ⟨_, rfl, by decide, gT_in 346 (by decide +kernel) rfl, rfl⟩
theorem oF_Li_91 : okF "MatchPipe$Line" 91 9 3 0 := ⟨_, rfl, by decide, gT_in 399 (by decide +kernel) rfl, rfl⟩
theorem oF_Li_101 : okF "MatchPipe$Line" 101 9 5 0 := ⟨_, rfl, by decide, gT_in 404 (by decide +kernel) rfl, rfl⟩
theorem oF_Li_104 : okF "MatchPipe$Line" 104 9 7 0 := ⟨_, rfl, by decide, gT_in 408 (by decide +kernel) rfl, rfl⟩
theorem oF_Li_115 : okF "MatchPipe$Line" 115 11 6 0 := ⟨_, rfl, by decide, gT_in 441 (by decide +kernel) rfl, rfl⟩
theorem oF_Li_118 : okF "MatchPipe$Line" 118 9 6 0 := ⟨_, rfl, by decide, gT_in 406 (by decide +kernel) rfl, rfl⟩
theorem oF_Li_119 : okF "MatchPipe$Line" 119 11 7 2 := ⟨_, rfl, by decide, gT_in 443 (by decide +kernel) rfl, rfl⟩
theorem oF_Li_123 : okF "MatchPipe$Line" 123 7 2 1 := ⟨_, rfl, by decide, gT_in 343 (by decide +kernel) rfl, rfl⟩
theorem oF_Li_126 : okF "MatchPipe$Line" 126 9 4 0 := ⟨_, rfl, by decide, gT_in 402 (by decide +kernel) rfl, rfl⟩
theorem oF_Li_133 : okF "MatchPipe$Line" 133 7 1 1 := ⟨_, rfl, by decide, gT_in 341 (by decide +kernel) rfl, rfl⟩
theorem oF_Li_136 : okF "MatchPipe$Line" 136 11 5 0 := ⟨_, rfl, by decide, gT_in 439 (by decide +kernel) rfl, rfl⟩
theorem oF_Li_139 : okF "MatchPipe$Line" 139 1 4 1 := ⟨_, rfl, by decide, gT_in 297 (by decide +kernel) rfl, rfl⟩
theorem oF_Li_147 : okF "MatchPipe$Line" 147 1 3 1 := ⟨_, rfl, by decide, gT_in 293 (by decide +kernel) rfl, rfl⟩
theorem oF_Li_151 : okF "MatchPipe$Line" 151 9 0 1 := ⟨_, rfl, by decide, gT_in 391 (by decide +kernel) rfl, rfl⟩
theorem oF_Li_169 : okF "MatchPipe$Line" 169 6 0 0 := ⟨_, rfl, by decide, gT_in 261 (by decide +kernel) rfl, rfl⟩
theorem oF_Li_174 : okF "MatchPipe$Line" 174 11 0 1 := ⟨_, rfl, by decide, gT_in 433 (by decide +kernel) rfl, rfl⟩
theorem oF_Li_177 : okF "MatchPipe$Line" 177 6 1 0 := ⟨_, rfl, by decide, gT_in 264 (by decide +kernel) rfl, rfl⟩
theorem oF_Li_184 : okF "MatchPipe$Line" 184 6 4 0 := ⟨_, rfl, by decide, gT_in 269 (by decide +kernel) rfl, rfl⟩
theorem oF_Li_187 : okF "MatchPipe$Line" 187 4 5 0 := ⟨_, rfl, by decide, gT_in 225 (by decide +kernel) rfl, rfl⟩
theorem oF_Li_190 : okF "MatchPipe$Line" 190 4 2 0 := ⟨_, rfl, by decide, gT_in 220 (by decide +kernel) rfl, rfl⟩
theorem oF_Li_197 : okF "MatchPipe$Line" 197 4 9 0 := ⟨_, rfl, by decide, gT_in 231 (by decide +kernel) rfl, rfl⟩
theorem oF_Li_200 : okF "MatchPipe$Line" 200 5 5 0 := ⟨_, rfl, by decide, gT_in 193 (by decide +kernel) rfl, rfl⟩
theorem oF_Li_205 : okF "MatchPipe$Line" 205 1 2 1 := ⟨_, rfl, by decide, gT_in 290 (by decide +kernel) rfl, rfl⟩
/-! MatchPipe$Line.forget()V -/
def yLi_forget : MethodName := ⟨"MatchPipe$Line", "forget", "()V"⟩
def tLi_forget : tM := (prog_7_method_2_code, "MatchPipe$Line", 1, "forget", none, [])
def rLi_forget : Room := { frames := 1, cells := 0, slots := 0, locals := 23 }
theorem kLi_forget : cOf yLi_forget tLi_forget ∈ gT := gT_in 542 (by decide +kernel) rfl
theorem iLi_forget : Cond.initialized yLi_forget.cls ∈ gT := gT_in 56 (by decide +kernel) rfl
theorem mLi_forget : okM yLi_forget 0 := ⟨by decide, by decide, by unfold nPar; decide +kernel⟩
theorem nLi_forget : Cond.instanceMethod yLi_forget ∈ gT := gT_in 540 (by decide +kernel) rfl
theorem lLi_forget : Cond.selects "MatchPipe$Line" yLi_forget yLi_forget ∈ gT := gT_in 541 (by decide +kernel) rfl
def fLi_forget (x0 : Nat) (S : Sx) : Option (Sx) :=
    (gX S 8 4 x0).bind fun v1 =>
    (fJA_fill v1 (-1) S).bind fun S4 =>
    (gX S4 8 5 x0).bind fun v5 =>
    (fJA_fill v5 0 S4).bind fun S8 =>
    (pI S8 8 6 x0 0).bind fun S9 =>
    (pI S9 8 7 x0 0).bind fun S11 =>
    (pI S11 8 8 x0 0).bind fun S13 =>
    (pI S13 8 9 x0 0).bind fun S15 =>
    some S15
set_option maxRecDepth 100000 in
set_option maxHeartbeats 4000000 in
theorem wLi_forget {Γ : vG} (hR : gR Γ = rLi_forget) (hl : (gl Γ).flags = pinnedFlags ++ [noTraceFlag]) (x0 : Nat) (S : Sx) {X : Sx} (h : fLi_forget x0 S = some X) : vV Γ tLi_forget (mQ Γ 0 0 0 none X) S 0 0 0 [(0, .ref x0)] [] := by
  unfold fLi_forget at h
  refine v_aload_n (pc := 0) (show decode (tC tLi_forget) 0 = .ok (.aload_n 0, 1) by decide +kernel) 0 rfl rfl ?_
  obtain ⟨v1, e2, h⟩ := ob h
  refine v_getX (pc := 1) oF_Li_37 e2 (show decode (tC tLi_forget) 1 = .ok (.getfield 37, 3) by decide +kernel) ?_
  refine v_iconst (pc := 4) (v := (-1)) (show decode (tC tLi_forget) 4 = .ok (.iconst (-1), 1) by decide +kernel) (by decide) ?_
  obtain ⟨S4, e3, h⟩ := ob h
  refine v_call (pc := 5) (v := none) (y := yJA_fill) (θ' := tJA_fill) (rm := rJA_fill) (av := [.ref v1, .int (-1)]) (st := []) (cJA_fill (l := gl Γ) hl e3) kJA_fill iJA_fill (iv_static (y := yJA_fill) (θ' := tJA_fill) (n := 2) (As := [.ref v1, .int (-1)]) kJA_fill (gT_in 461 (by decide +kernel) rfl) sJA_fill iJA_fill mJA_fill rfl (show decode (tC tLi_forget) 5 = .ok (.invokestatic 46, 3) by decide +kernel)) ⟨by rw [hR]; decide, by rw [hR]; decide, by rw [hR]; decide, by rw [hR]; decide⟩ (Nat.le_of_ble_eq_true rfl) ?_
  refine v_aload_n (pc := 8) (show decode (tC tLi_forget) 8 = .ok (.aload_n 0, 1) by decide +kernel) 0 rfl rfl ?_
  obtain ⟨v5, e6, h⟩ := ob h
  refine v_getX (pc := 9) oF_Li_41 e6 (show decode (tC tLi_forget) 9 = .ok (.getfield 41, 3) by decide +kernel) ?_
  refine v_iconst (pc := 12) (v := 0) (show decode (tC tLi_forget) 12 = .ok (.iconst 0, 1) by decide +kernel) (by decide) ?_
  obtain ⟨S8, e7, h⟩ := ob h
  refine v_call (pc := 13) (v := none) (y := yJA_fill) (θ' := tJA_fill) (rm := rJA_fill) (av := [.ref v5, .int 0]) (st := []) (cJA_fill (l := gl Γ) hl e7) kJA_fill iJA_fill (iv_static (y := yJA_fill) (θ' := tJA_fill) (n := 2) (As := [.ref v5, .int 0]) kJA_fill (gT_in 461 (by decide +kernel) rfl) sJA_fill iJA_fill mJA_fill rfl (show decode (tC tLi_forget) 13 = .ok (.invokestatic 46, 3) by decide +kernel)) ⟨by rw [hR]; decide, by rw [hR]; decide, by rw [hR]; decide, by rw [hR]; decide⟩ (Nat.le_of_ble_eq_true rfl) ?_
  refine v_aload_n (pc := 16) (show decode (tC tLi_forget) 16 = .ok (.aload_n 0, 1) by decide +kernel) 0 rfl rfl ?_
  refine v_iconst (pc := 17) (v := 0) (show decode (tC tLi_forget) 17 = .ok (.iconst 0, 1) by decide +kernel) (by decide) ?_
  obtain ⟨S9, e10, h⟩ := ob h
  refine v_putI (pc := 18) oF_Li_52 (fin_ok (kd := 8) (k := 6) (by decide +kernel)) e10 (show decode (tC tLi_forget) 18 = .ok (.putfield 52, 3) by decide +kernel) ?_
  refine v_aload_n (pc := 21) (show decode (tC tLi_forget) 21 = .ok (.aload_n 0, 1) by decide +kernel) 0 rfl rfl ?_
  refine v_iconst (pc := 22) (v := 0) (show decode (tC tLi_forget) 22 = .ok (.iconst 0, 1) by decide +kernel) (by decide) ?_
  obtain ⟨S11, e12, h⟩ := ob h
  refine v_putI (pc := 23) oF_Li_56 (fin_ok (kd := 8) (k := 7) (by decide +kernel)) e12 (show decode (tC tLi_forget) 23 = .ok (.putfield 56, 3) by decide +kernel) ?_
  refine v_aload_n (pc := 26) (show decode (tC tLi_forget) 26 = .ok (.aload_n 0, 1) by decide +kernel) 0 rfl rfl ?_
  refine v_iconst (pc := 27) (v := 0) (show decode (tC tLi_forget) 27 = .ok (.iconst 0, 1) by decide +kernel) (by decide) ?_
  obtain ⟨S13, e14, h⟩ := ob h
  refine v_putI (pc := 28) oF_Li_59 (fin_ok (kd := 8) (k := 8) (by decide +kernel)) e14 (show decode (tC tLi_forget) 28 = .ok (.putfield 59, 3) by decide +kernel) ?_
  refine v_aload_n (pc := 31) (show decode (tC tLi_forget) 31 = .ok (.aload_n 0, 1) by decide +kernel) 0 rfl rfl ?_
  refine v_iconst (pc := 32) (v := 0) (show decode (tC tLi_forget) 32 = .ok (.iconst 0, 1) by decide +kernel) (by decide) ?_
  obtain ⟨S15, e16, h⟩ := ob h
  refine v_putI (pc := 33) oF_Li_62 (fin_ok (kd := 8) (k := 9) (by decide +kernel)) e16 (show decode (tC tLi_forget) 33 = .ok (.putfield 62, 3) by decide +kernel) ?_
  obtain rfl := Option.some.inj h
  refine v_wide (ce2 := 0) (sl2 := 0) (by decide) (by decide) ?_
  exact v_vret (pc := 36) rfl (show decode (tC tLi_forget) 36 = .ok (.return_, 1) by decide +kernel)
theorem cLi_forget {l : Launch} (hl : l.flags = pinnedFlags ++ [noTraceFlag]) {D : va_G} {dA : Nat → ClassId} {B : Nat} {x0 : Nat} {S : Sx} {X : Sx} (h : fLi_forget x0 S = some X) : Mx l yLi_forget tLi_forget rLi_forget 0 0 D dA B S [.ref x0] 0 none X :=
  mx_of hl (by decide) rfl rfl (Nat.le_of_ble_eq_true rfl) (fun Γ e1 e2 e3 e4 e5 => by subst e1; subst e3; subst e4; subst e5; exact wLi_forget e2 hl x0 S h)
/-! MatchPipe$Line.placeOf(I)LMatchPipe$Operation; -/
def yLi_placeOf : MethodName := ⟨"MatchPipe$Line", "placeOf", "(I)LMatchPipe$Operation;"⟩
def tLi_placeOf : tM := (prog_7_method_6_code, "MatchPipe$Line", 2, "placeOf", some (.object "MatchPipe$Operation"), [])
def rLi_placeOf : Room := { frames := 0, cells := 0, slots := 0, locals := 0 }
theorem kLi_placeOf : cOf yLi_placeOf tLi_placeOf ∈ gT := gT_in 601 (by decide +kernel) rfl
theorem iLi_placeOf : Cond.initialized yLi_placeOf.cls ∈ gT := gT_in 56 (by decide +kernel) rfl
theorem mLi_placeOf : okM yLi_placeOf 1 := ⟨by decide, by decide, by unfold nPar; decide +kernel⟩
theorem nLi_placeOf : Cond.instanceMethod yLi_placeOf ∈ gT := gT_in 599 (by decide +kernel) rfl
theorem lLi_placeOf : Cond.selects "MatchPipe$Line" yLi_placeOf yLi_placeOf ∈ gT := gT_in 600 (by decide +kernel) rfl
def fLi_placeOf (x0 : Nat) (x1 : Int32) (S : Sx) : Option (Option Nat × Sx) :=
    (gX S 8 2 x0).bind fun v1 =>
    (aX S 9 v1 (x1 &&& 127)).bind fun v3 =>
    some (some v3, S)
set_option maxRecDepth 100000 in
set_option maxHeartbeats 4000000 in
theorem wLi_placeOf {Γ : vG} (hR : gR Γ = rLi_placeOf) (hl : (gl Γ).flags = pinnedFlags ++ [noTraceFlag]) (x0 : Nat) (x1 : Int32) (S : Sx) {X : Option Nat × Sx} (h : fLi_placeOf x0 x1 S = some X) : vV Γ tLi_placeOf (mQ Γ 0 0 0 (some (va_rf X.1)) X.2) S 0 0 0 [(0, .ref x0), (1, .int x1)] [] := by
  unfold fLi_placeOf at h
  refine v_aload_n (pc := 0) (show decode (tC tLi_placeOf) 0 = .ok (.aload_n 0, 1) by decide +kernel) 0 rfl rfl ?_
  obtain ⟨v1, e2, h⟩ := ob h
  refine v_getX (pc := 1) oF_Li_27 e2 (show decode (tC tLi_placeOf) 1 = .ok (.getfield 27, 3) by decide +kernel) ?_
  refine v_iload_n (pc := 4) (show decode (tC tLi_placeOf) 4 = .ok (.iload_n 1, 1) by decide +kernel) 1 rfl rfl ?_
  refine v_bipush (pc := 5) (v := 127) (show decode (tC tLi_placeOf) 5 = .ok (.bipush 127, 2) by decide +kernel) (by decide) ?_
  refine v_iand (pc := 7) (show decode (tC tLi_placeOf) 7 = .ok (.iand, 1) by decide +kernel) ?_
  obtain ⟨v3, e4, h⟩ := ob h
  refine v_aald (pc := 8) (kd := 9) rfl e4 (show decode (tC tLi_placeOf) 8 = .ok (.aaload, 1) by decide +kernel) ?_
  obtain rfl := Option.some.inj h
  refine v_wide (ce2 := 0) (sl2 := 0) (by decide) (by decide) ?_
  exact v_aret (pc := 9) (r := some v3) rfl (show decode (tC tLi_placeOf) 9 = .ok (.areturn, 1) by decide +kernel)
theorem cLi_placeOf {l : Launch} (hl : l.flags = pinnedFlags ++ [noTraceFlag]) {D : va_G} {dA : Nat → ClassId} {B : Nat} {x0 : Nat} {x1 : Int32} {S : Sx} {X : Option Nat × Sx} (h : fLi_placeOf x0 x1 S = some X) : Mx l yLi_placeOf tLi_placeOf rLi_placeOf 0 0 D dA B S [.ref x0, .int x1] 0 (some (va_rf X.1)) X.2 :=
  mx_of hl (by decide) rfl rfl (Nat.le_of_ble_eq_true rfl) (fun Γ e1 e2 e3 e4 e5 => by subst e1; subst e3; subst e4; subst e5; exact wLi_placeOf e2 hl x0 x1 S h)
/-! MatchPipe$Line.remembers(I)Z -/
def yLi_remembers : MethodName := ⟨"MatchPipe$Line", "remembers", "(I)Z"⟩
def tLi_remembers : tM := (prog_7_method_5_code, "MatchPipe$Line", 2, "remembers", some .boolean, [])
def rLi_remembers : Room := { frames := 0, cells := 0, slots := 0, locals := 0 }
theorem kLi_remembers : cOf yLi_remembers tLi_remembers ∈ gT := gT_in 597 (by decide +kernel) rfl
theorem iLi_remembers : Cond.initialized yLi_remembers.cls ∈ gT := gT_in 56 (by decide +kernel) rfl
theorem mLi_remembers : okM yLi_remembers 1 := ⟨by decide, by decide, by unfold nPar; decide +kernel⟩
theorem nLi_remembers : Cond.instanceMethod yLi_remembers ∈ gT := gT_in 595 (by decide +kernel) rfl
theorem lLi_remembers : Cond.selects "MatchPipe$Line" yLi_remembers yLi_remembers ∈ gT := gT_in 596 (by decide +kernel) rfl
def fLi_remembers (x0 : Nat) (x1 : Int32) (S : Sx) : Option (Int32 × Sx) :=
    if x1 < 0 then
    (some (0, S))
    else
    ((gI S 8 8 x0).bind fun v1 =>
    if v1 ≤ x1 then
    (some (0, S))
    else
    ((gI S 8 8 x0).bind fun v3 =>
    if x1 < (v3 - 64) then
    (some (0, S))
    else
    (some (1, S))))
set_option maxRecDepth 100000 in
set_option maxHeartbeats 4000000 in
theorem wLi_remembers {Γ : vG} (hR : gR Γ = rLi_remembers) (hl : (gl Γ).flags = pinnedFlags ++ [noTraceFlag]) (x0 : Nat) (x1 : Int32) (S : Sx) {X : Int32 × Sx} (h : fLi_remembers x0 x1 S = some X) : vV Γ tLi_remembers (mQ Γ 0 0 0 (some (.int X.1)) X.2) S 0 0 0 [(0, .ref x0), (1, .int x1)] [] := by
  unfold fLi_remembers at h
  refine v_iload_n (pc := 0) (show decode (tC tLi_remembers) 0 = .ok (.iload_n 1, 1) by decide +kernel) 1 rfl rfl ?_
  refine v_if_lt (pc := 1) 27 (show decode (tC tLi_remembers) 1 = .ok (.ifCond .lt 26, 3) by decide +kernel) (by decide) (fun c => ?_) (fun c => ?_)
  · replace h := ite_t c h
    refine v_iconst (pc := 27) (v := 0) (show decode (tC tLi_remembers) 27 = .ok (.iconst 0, 1) by decide +kernel) (by decide) ?_
    obtain rfl := Option.some.inj h
    refine v_wide (ce2 := 0) (sl2 := 0) (by decide) (by decide) ?_
    exact v_zret (pc := 28) rfl (Or.inl rfl) (show decode (tC tLi_remembers) 28 = .ok (.ireturn, 1) by decide +kernel)
  · replace h := ite_f c h
    refine v_iload_n (pc := 4) (show decode (tC tLi_remembers) 4 = .ok (.iload_n 1, 1) by decide +kernel) 1 rfl rfl ?_
    refine v_aload_n (pc := 5) (show decode (tC tLi_remembers) 5 = .ok (.aload_n 0, 1) by decide +kernel) 0 rfl rfl ?_
    obtain ⟨v1, e2, h⟩ := ob h
    refine v_getI (pc := 6) oF_Li_59 (by decide) e2 (show decode (tC tLi_remembers) 6 = .ok (.getfield 59, 3) by decide +kernel) ?_
    refine v_icmp_ge (pc := 9) 27 (show decode (tC tLi_remembers) 9 = .ok (.if_icmp .ge 18, 3) by decide +kernel) (by decide) (fun c => ?_) (fun c => ?_)
    · replace h := ite_t c h
      refine v_iconst (pc := 27) (v := 0) (show decode (tC tLi_remembers) 27 = .ok (.iconst 0, 1) by decide +kernel) (by decide) ?_
      obtain rfl := Option.some.inj h
      refine v_wide (ce2 := 0) (sl2 := 0) (by decide) (by decide) ?_
      exact v_zret (pc := 28) rfl (Or.inl rfl) (show decode (tC tLi_remembers) 28 = .ok (.ireturn, 1) by decide +kernel)
    · replace h := ite_f c h
      refine v_iload_n (pc := 12) (show decode (tC tLi_remembers) 12 = .ok (.iload_n 1, 1) by decide +kernel) 1 rfl rfl ?_
      refine v_aload_n (pc := 13) (show decode (tC tLi_remembers) 13 = .ok (.aload_n 0, 1) by decide +kernel) 0 rfl rfl ?_
      obtain ⟨v3, e4, h⟩ := ob h
      refine v_getI (pc := 14) oF_Li_59 (by decide) e4 (show decode (tC tLi_remembers) 14 = .ok (.getfield 59, 3) by decide +kernel) ?_
      refine v_bipush (pc := 17) (v := 64) (show decode (tC tLi_remembers) 17 = .ok (.bipush 64, 2) by decide +kernel) (by decide) ?_
      refine v_isub (pc := 19) (show decode (tC tLi_remembers) 19 = .ok (.isub, 1) by decide +kernel) ?_
      refine v_icmp_lt (pc := 20) 27 (show decode (tC tLi_remembers) 20 = .ok (.if_icmp .lt 7, 3) by decide +kernel) (by decide) (fun c => ?_) (fun c => ?_)
      · replace h := ite_t c h
        refine v_iconst (pc := 27) (v := 0) (show decode (tC tLi_remembers) 27 = .ok (.iconst 0, 1) by decide +kernel) (by decide) ?_
        obtain rfl := Option.some.inj h
        refine v_wide (ce2 := 0) (sl2 := 0) (by decide) (by decide) ?_
        exact v_zret (pc := 28) rfl (Or.inl rfl) (show decode (tC tLi_remembers) 28 = .ok (.ireturn, 1) by decide +kernel)
      · replace h := ite_f c h
        refine v_iconst (pc := 23) (v := 1) (show decode (tC tLi_remembers) 23 = .ok (.iconst 1, 1) by decide +kernel) (by decide) ?_
        refine v_goto (pc := 24) 28 (show decode (tC tLi_remembers) 24 = .ok (.goto 4, 3) by decide +kernel) (by decide) ?_
        obtain rfl := Option.some.inj h
        refine v_wide (ce2 := 0) (sl2 := 0) (by decide) (by decide) ?_
        exact v_zret (pc := 28) rfl (Or.inr rfl) (show decode (tC tLi_remembers) 28 = .ok (.ireturn, 1) by decide +kernel)
theorem cLi_remembers {l : Launch} (hl : l.flags = pinnedFlags ++ [noTraceFlag]) {D : va_G} {dA : Nat → ClassId} {B : Nat} {x0 : Nat} {x1 : Int32} {S : Sx} {X : Int32 × Sx} (h : fLi_remembers x0 x1 S = some X) : Mx l yLi_remembers tLi_remembers rLi_remembers 0 0 D dA B S [.ref x0, .int x1] 0 (some (.int X.1)) X.2 :=
  mx_of hl (by decide) rfl rfl (Nat.le_of_ble_eq_true rfl) (fun Γ e1 e2 e3 e4 e5 => by subst e1; subst e3; subst e4; subst e5; exact wLi_remembers e2 hl x0 x1 S h)
/-! MatchPipe$Line.inLine()I -/
def yLi_inLine : MethodName := ⟨"MatchPipe$Line", "inLine", "()I"⟩
def tLi_inLine : tM := (prog_7_method_3_code, "MatchPipe$Line", 1, "inLine", some .int, [])
def rLi_inLine : Room := { frames := 0, cells := 0, slots := 0, locals := 0 }
theorem kLi_inLine : cOf yLi_inLine tLi_inLine ∈ gT := gT_in 617 (by decide +kernel) rfl
theorem iLi_inLine : Cond.initialized yLi_inLine.cls ∈ gT := gT_in 56 (by decide +kernel) rfl
theorem mLi_inLine : okM yLi_inLine 0 := ⟨by decide, by decide, by unfold nPar; decide +kernel⟩
theorem nLi_inLine : Cond.instanceMethod yLi_inLine ∈ gT := gT_in 615 (by decide +kernel) rfl
theorem lLi_inLine : Cond.selects "MatchPipe$Line" yLi_inLine yLi_inLine ∈ gT := gT_in 616 (by decide +kernel) rfl
def fLi_inLine (x0 : Nat) (S : Sx) : Option (Int32 × Sx) :=
    (gI S 8 6 x0).bind fun v1 =>
    (gI S 8 7 x0).bind fun v3 =>
    some (v1 - v3, S)
set_option maxRecDepth 100000 in
set_option maxHeartbeats 4000000 in
theorem wLi_inLine {Γ : vG} (hR : gR Γ = rLi_inLine) (hl : (gl Γ).flags = pinnedFlags ++ [noTraceFlag]) (x0 : Nat) (S : Sx) {X : Int32 × Sx} (h : fLi_inLine x0 S = some X) : vV Γ tLi_inLine (mQ Γ 0 0 0 (some (.int X.1)) X.2) S 0 0 0 [(0, .ref x0)] [] := by
  unfold fLi_inLine at h
  refine v_aload_n (pc := 0) (show decode (tC tLi_inLine) 0 = .ok (.aload_n 0, 1) by decide +kernel) 0 rfl rfl ?_
  obtain ⟨v1, e2, h⟩ := ob h
  refine v_getI (pc := 1) oF_Li_52 (by decide) e2 (show decode (tC tLi_inLine) 1 = .ok (.getfield 52, 3) by decide +kernel) ?_
  refine v_aload_n (pc := 4) (show decode (tC tLi_inLine) 4 = .ok (.aload_n 0, 1) by decide +kernel) 0 rfl rfl ?_
  obtain ⟨v3, e4, h⟩ := ob h
  refine v_getI (pc := 5) oF_Li_56 (by decide) e4 (show decode (tC tLi_inLine) 5 = .ok (.getfield 56, 3) by decide +kernel) ?_
  refine v_isub (pc := 8) (show decode (tC tLi_inLine) 8 = .ok (.isub, 1) by decide +kernel) ?_
  obtain rfl := Option.some.inj h
  refine v_wide (ce2 := 0) (sl2 := 0) (by decide) (by decide) ?_
  exact v_iret (pc := 9) rfl (show decode (tC tLi_inLine) 9 = .ok (.ireturn, 1) by decide +kernel)
theorem cLi_inLine {l : Launch} (hl : l.flags = pinnedFlags ++ [noTraceFlag]) {D : va_G} {dA : Nat → ClassId} {B : Nat} {x0 : Nat} {S : Sx} {X : Int32 × Sx} (h : fLi_inLine x0 S = some X) : Mx l yLi_inLine tLi_inLine rLi_inLine 0 0 D dA B S [.ref x0] 0 (some (.int X.1)) X.2 :=
  mx_of hl (by decide) rfl rfl (Nat.le_of_ble_eq_true rfl) (fun Γ e1 e2 e3 e4 e5 => by subst e1; subst e3; subst e4; subst e5; exact wLi_inLine e2 hl x0 S h)
/-! MatchPipe$Line.inStages()I -/
def yLi_inStages : MethodName := ⟨"MatchPipe$Line", "inStages", "()I"⟩
def tLi_inStages : tM := (prog_7_method_4_code, "MatchPipe$Line", 1, "inStages", some .int, [])
def rLi_inStages : Room := { frames := 0, cells := 0, slots := 0, locals := 0 }
theorem kLi_inStages : cOf yLi_inStages tLi_inStages ∈ gT := gT_in 621 (by decide +kernel) rfl
theorem iLi_inStages : Cond.initialized yLi_inStages.cls ∈ gT := gT_in 56 (by decide +kernel) rfl
theorem mLi_inStages : okM yLi_inStages 0 := ⟨by decide, by decide, by unfold nPar; decide +kernel⟩
theorem nLi_inStages : Cond.instanceMethod yLi_inStages ∈ gT := gT_in 619 (by decide +kernel) rfl
theorem lLi_inStages : Cond.selects "MatchPipe$Line" yLi_inStages yLi_inStages ∈ gT := gT_in 620 (by decide +kernel) rfl
def fLi_inStages (x0 : Nat) (S : Sx) : Option (Int32 × Sx) :=
    (gI S 8 7 x0).bind fun v1 =>
    (gI S 8 8 x0).bind fun v3 =>
    some (v1 - v3, S)
set_option maxRecDepth 100000 in
set_option maxHeartbeats 4000000 in
theorem wLi_inStages {Γ : vG} (hR : gR Γ = rLi_inStages) (hl : (gl Γ).flags = pinnedFlags ++ [noTraceFlag]) (x0 : Nat) (S : Sx) {X : Int32 × Sx} (h : fLi_inStages x0 S = some X) : vV Γ tLi_inStages (mQ Γ 0 0 0 (some (.int X.1)) X.2) S 0 0 0 [(0, .ref x0)] [] := by
  unfold fLi_inStages at h
  refine v_aload_n (pc := 0) (show decode (tC tLi_inStages) 0 = .ok (.aload_n 0, 1) by decide +kernel) 0 rfl rfl ?_
  obtain ⟨v1, e2, h⟩ := ob h
  refine v_getI (pc := 1) oF_Li_56 (by decide) e2 (show decode (tC tLi_inStages) 1 = .ok (.getfield 56, 3) by decide +kernel) ?_
  refine v_aload_n (pc := 4) (show decode (tC tLi_inStages) 4 = .ok (.aload_n 0, 1) by decide +kernel) 0 rfl rfl ?_
  obtain ⟨v3, e4, h⟩ := ob h
  refine v_getI (pc := 5) oF_Li_59 (by decide) e4 (show decode (tC tLi_inStages) 5 = .ok (.getfield 59, 3) by decide +kernel) ?_
  refine v_isub (pc := 8) (show decode (tC tLi_inStages) 8 = .ok (.isub, 1) by decide +kernel) ?_
  obtain rfl := Option.some.inj h
  refine v_wide (ce2 := 0) (sl2 := 0) (by decide) (by decide) ?_
  exact v_iret (pc := 9) rfl (show decode (tC tLi_inStages) 9 = .ok (.ireturn, 1) by decide +kernel)
theorem cLi_inStages {l : Launch} (hl : l.flags = pinnedFlags ++ [noTraceFlag]) {D : va_G} {dA : Nat → ClassId} {B : Nat} {x0 : Nat} {S : Sx} {X : Int32 × Sx} (h : fLi_inStages x0 S = some X) : Mx l yLi_inStages tLi_inStages rLi_inStages 0 0 D dA B S [.ref x0] 0 (some (.int X.1)) X.2 :=
  mx_of hl (by decide) rfl rfl (Nat.le_of_ble_eq_true rfl) (fun Γ e1 e2 e3 e4 e5 => by subst e1; subst e3; subst e4; subst e5; exact wLi_inStages e2 hl x0 S h)
/-! MatchPipe$Line.nextPlace()LMatchPipe$Operation; -/
def yLi_nextPlace : MethodName := ⟨"MatchPipe$Line", "nextPlace", "()LMatchPipe$Operation;"⟩
def tLi_nextPlace : tM := (prog_7_method_7_code, "MatchPipe$Line", 1, "nextPlace", some (.object "MatchPipe$Operation"), [])
def rLi_nextPlace : Room := { frames := 1, cells := 0, slots := 0, locals := 21 }
theorem kLi_nextPlace : cOf yLi_nextPlace tLi_nextPlace ∈ gT := gT_in 987 (by decide +kernel) rfl
theorem iLi_nextPlace : Cond.initialized yLi_nextPlace.cls ∈ gT := gT_in 56 (by decide +kernel) rfl
theorem mLi_nextPlace : okM yLi_nextPlace 0 := ⟨by decide, by decide, by unfold nPar; decide +kernel⟩
theorem nLi_nextPlace : Cond.instanceMethod yLi_nextPlace ∈ gT := gT_in 985 (by decide +kernel) rfl
theorem lLi_nextPlace : Cond.selects "MatchPipe$Line" yLi_nextPlace yLi_nextPlace ∈ gT := gT_in 986 (by decide +kernel) rfl
def fLi_nextPlace (x0 : Nat) (S : Sx) : Option (Option Nat × Sx) :=
    (gI S 8 6 x0).bind fun v1 =>
    (ckd S x0 8).bind fun _ =>
    bd2 (fLi_placeOf x0 v1 S) fun r5 S6 =>
    r5.bind fun a7 =>
    some (some a7, S6)
set_option maxRecDepth 100000 in
set_option maxHeartbeats 4000000 in
theorem wLi_nextPlace {Γ : vG} (hR : gR Γ = rLi_nextPlace) (hl : (gl Γ).flags = pinnedFlags ++ [noTraceFlag]) (x0 : Nat) (S : Sx) {X : Option Nat × Sx} (h : fLi_nextPlace x0 S = some X) : vV Γ tLi_nextPlace (mQ Γ 0 0 0 (some (va_rf X.1)) X.2) S 0 0 0 [(0, .ref x0)] [] := by
  unfold fLi_nextPlace at h
  refine v_aload_n (pc := 0) (show decode (tC tLi_nextPlace) 0 = .ok (.aload_n 0, 1) by decide +kernel) 0 rfl rfl ?_
  refine v_aload_n (pc := 1) (show decode (tC tLi_nextPlace) 1 = .ok (.aload_n 0, 1) by decide +kernel) 0 rfl rfl ?_
  obtain ⟨v1, e2, h⟩ := ob h
  refine v_getI (pc := 2) oF_Li_52 (by decide) e2 (show decode (tC tLi_nextPlace) 2 = .ok (.getfield 52, 3) by decide +kernel) ?_
  obtain ⟨_, e4, h⟩ := ob h
  obtain ⟨r5, S6, e3, h⟩ := ob2 h
  have h9 := ob h
  clear h
  obtain ⟨a7, e8, h⟩ := h9
  subst e8
  refine v_call (pc := 5) (v := (some (.ref a7))) (y := yLi_placeOf) (θ' := tLi_placeOf) (rm := rLi_placeOf) (av := [.ref x0, .int v1]) (st := []) (cLi_placeOf (l := gl Γ) hl e3) kLi_placeOf iLi_placeOf (iv_virt (y := yLi_placeOf) (θ' := tLi_placeOf) (kd := 8) (As := [.int v1]) rfl (ckd_of e4) kLi_placeOf (gT_in 988 (by decide +kernel) rfl) nLi_placeOf lLi_placeOf mLi_placeOf rfl (show decode (tC tLi_nextPlace) 5 = .ok (.invokevirtual 65, 3) by decide +kernel)) ⟨by rw [hR]; decide, by rw [hR]; decide, by rw [hR]; decide, by rw [hR]; decide⟩ (Nat.le_of_ble_eq_true rfl) ?_
  obtain rfl := Option.some.inj h
  refine v_wide (ce2 := 0) (sl2 := 0) (by decide) (by decide) ?_
  exact v_aret (pc := 8) (r := some a7) rfl (show decode (tC tLi_nextPlace) 8 = .ok (.areturn, 1) by decide +kernel)
theorem cLi_nextPlace {l : Launch} (hl : l.flags = pinnedFlags ++ [noTraceFlag]) {D : va_G} {dA : Nat → ClassId} {B : Nat} {x0 : Nat} {S : Sx} {X : Option Nat × Sx} (h : fLi_nextPlace x0 S = some X) : Mx l yLi_nextPlace tLi_nextPlace rLi_nextPlace 0 0 D dA B S [.ref x0] 0 (some (va_rf X.1)) X.2 :=
  mx_of hl (by decide) rfl rfl (Nat.le_of_ble_eq_true rfl) (fun Γ e1 e2 e3 e4 e5 => by subst e1; subst e3; subst e4; subst e5; exact wLi_nextPlace e2 hl x0 S h)
/-! MatchPipe$Line.headerOf(I)LMatchPipe$Header; -/
def yLi_headerOf : MethodName := ⟨"MatchPipe$Line", "headerOf", "(I)LMatchPipe$Header;"⟩
def tLi_headerOf : tM := (prog_7_method_9_code, "MatchPipe$Line", 2, "headerOf", some (.object "MatchPipe$Header"), [])
def rLi_headerOf : Room := { frames := 0, cells := 0, slots := 0, locals := 0 }
theorem kLi_headerOf : cOf yLi_headerOf tLi_headerOf ∈ gT := gT_in 1044 (by decide +kernel) rfl
theorem iLi_headerOf : Cond.initialized yLi_headerOf.cls ∈ gT := gT_in 56 (by decide +kernel) rfl
theorem mLi_headerOf : okM yLi_headerOf 1 := ⟨by decide, by decide, by unfold nPar; decide +kernel⟩
theorem nLi_headerOf : Cond.instanceMethod yLi_headerOf ∈ gT := gT_in 1043 (by decide +kernel) rfl
theorem lLi_headerOf : Cond.selects "MatchPipe$Line" yLi_headerOf yLi_headerOf ∈ gT := gT_in 13 (by decide +kernel) rfl
def fLi_headerOf (x0 : Nat) (x1 : Int32) (S : Sx) : Option (Option Nat × Sx) :=
    (gX S 8 3 x0).bind fun v1 =>
    (aX S 11 v1 (x1 &&& 15)).bind fun v3 =>
    some (some v3, S)
set_option maxRecDepth 100000 in
set_option maxHeartbeats 4000000 in
theorem wLi_headerOf {Γ : vG} (hR : gR Γ = rLi_headerOf) (hl : (gl Γ).flags = pinnedFlags ++ [noTraceFlag]) (x0 : Nat) (x1 : Int32) (S : Sx) {X : Option Nat × Sx} (h : fLi_headerOf x0 x1 S = some X) : vV Γ tLi_headerOf (mQ Γ 0 0 0 (some (va_rf X.1)) X.2) S 0 0 0 [(0, .ref x0), (1, .int x1)] [] := by
  unfold fLi_headerOf at h
  refine v_aload_n (pc := 0) (show decode (tC tLi_headerOf) 0 = .ok (.aload_n 0, 1) by decide +kernel) 0 rfl rfl ?_
  obtain ⟨v1, e2, h⟩ := ob h
  refine v_getX (pc := 1) oF_Li_33 e2 (show decode (tC tLi_headerOf) 1 = .ok (.getfield 33, 3) by decide +kernel) ?_
  refine v_iload_n (pc := 4) (show decode (tC tLi_headerOf) 4 = .ok (.iload_n 1, 1) by decide +kernel) 1 rfl rfl ?_
  refine v_bipush (pc := 5) (v := 15) (show decode (tC tLi_headerOf) 5 = .ok (.bipush 15, 2) by decide +kernel) (by decide) ?_
  refine v_iand (pc := 7) (show decode (tC tLi_headerOf) 7 = .ok (.iand, 1) by decide +kernel) ?_
  obtain ⟨v3, e4, h⟩ := ob h
  refine v_aald (pc := 8) (kd := 11) rfl e4 (show decode (tC tLi_headerOf) 8 = .ok (.aaload, 1) by decide +kernel) ?_
  obtain rfl := Option.some.inj h
  refine v_wide (ce2 := 0) (sl2 := 0) (by decide) (by decide) ?_
  exact v_aret (pc := 9) (r := some v3) rfl (show decode (tC tLi_headerOf) 9 = .ok (.areturn, 1) by decide +kernel)
theorem cLi_headerOf {l : Launch} (hl : l.flags = pinnedFlags ++ [noTraceFlag]) {D : va_G} {dA : Nat → ClassId} {B : Nat} {x0 : Nat} {x1 : Int32} {S : Sx} {X : Option Nat × Sx} (h : fLi_headerOf x0 x1 S = some X) : Mx l yLi_headerOf tLi_headerOf rLi_headerOf 0 0 D dA B S [.ref x0, .int x1] 0 (some (va_rf X.1)) X.2 :=
  mx_of hl (by decide) rfl rfl (Nat.le_of_ble_eq_true rfl) (fun Γ e1 e2 e3 e4 e5 => by subst e1; subst e3; subst e4; subst e5; exact wLi_headerOf e2 hl x0 x1 S h)
/-! MatchPipe$Line.enter()I -/
def yLi_enter : MethodName := ⟨"MatchPipe$Line", "enter", "()I"⟩
def tLi_enter : tM := (prog_7_method_10_code, "MatchPipe$Line", 3, "enter", some .int, [])
def rLi_enter : Room := { frames := 4, cells := 0, slots := 0, locals := 97 }
theorem kLi_enter : cOf yLi_enter tLi_enter ∈ gT := gT_in 1054 (by decide +kernel) rfl
theorem iLi_enter : Cond.initialized yLi_enter.cls ∈ gT := gT_in 56 (by decide +kernel) rfl
theorem mLi_enter : okM yLi_enter 0 := ⟨by decide, by decide, by unfold nPar; decide +kernel⟩
theorem nLi_enter : Cond.instanceMethod yLi_enter ∈ gT := gT_in 1053 (by decide +kernel) rfl
theorem lLi_enter : Cond.selects "MatchPipe$Line" yLi_enter yLi_enter ∈ gT := gT_in 14 (by decide +kernel) rfl
def fLi_enter_46  (x0 : Nat) (S : Sx) : Option (Int32 × Sx) :=
    (gI S 8 7 x0).bind fun v1 =>
    (pI S 8 7 x0 (v1 + 1)).bind fun S3 =>
    some (v1, S3)
set_option maxRecDepth 100000 in
set_option maxHeartbeats 4000000 in
theorem wLi_enter_46 {Γ : vG} (hR : gR Γ = rLi_enter) (hl : (gl Γ).flags = pinnedFlags ++ [noTraceFlag]) {X : Int32 × Sx}  : ∀ (x0 : Nat) (S : Sx), fLi_enter_46  x0 S = some X → vV Γ tLi_enter (mQ Γ 0 0 0 (some (.int X.1)) X.2) S 0 0 46 [(0, .ref x0)] [] := by
  intro x0 S h
  unfold fLi_enter_46 at h
  refine v_aload_n (pc := 46) (show decode (tC tLi_enter) 46 = .ok (.aload_n 0, 1) by decide +kernel) 0 rfl rfl ?_
  refine v_dup (pc := 47) (show decode (tC tLi_enter) 47 = .ok (.dup, 1) by decide +kernel) rfl ?_
  obtain ⟨v1, e2, h⟩ := ob h
  refine v_getI (pc := 48) oF_Li_56 (by decide) e2 (show decode (tC tLi_enter) 48 = .ok (.getfield 56, 3) by decide +kernel) ?_
  refine v_dup_x1 (pc := 51) (show decode (tC tLi_enter) 51 = .ok (.dup_x1, 1) by decide +kernel) rfl rfl ?_
  refine v_iconst (pc := 52) (v := 1) (show decode (tC tLi_enter) 52 = .ok (.iconst 1, 1) by decide +kernel) (by decide) ?_
  refine v_iadd (pc := 53) (show decode (tC tLi_enter) 53 = .ok (.iadd, 1) by decide +kernel) ?_
  obtain ⟨S3, e4, h⟩ := ob h
  refine v_putI (pc := 54) oF_Li_56 (fin_ok (kd := 8) (k := 7) (by decide +kernel)) e4 (show decode (tC tLi_enter) 54 = .ok (.putfield 56, 3) by decide +kernel) ?_
  obtain rfl := Option.some.inj h
  refine v_wide (ce2 := 0) (sl2 := 0) (by decide) (by decide) ?_
  exact v_iret (pc := 57) rfl (show decode (tC tLi_enter) 57 = .ok (.ireturn, 1) by decide +kernel)
def fLi_enter (x0 : Nat) (S : Sx) : Option (Int32 × Sx) :=
    (gI S 8 7 x0).bind fun v1 =>
    (ckd S x0 8).bind fun _ =>
    bd2 (fLi_placeOf x0 v1 S) fun r5 S6 =>
    r5.bind fun a7 =>
    (gI S6 8 7 x0).bind fun v9 =>
    (ckd S6 x0 8).bind fun _ =>
    bd2 (fLi_headerOf x0 v9 S6) fun r13 S14 =>
    r13.bind fun a15 =>
    (gI S14 9 3 a7).bind fun v17 =>
    if v17 = 0 then
    ((ckd S14 a15 11).bind fun _ =>
    (fHe_begin a15 S14).bind fun S21 =>
    (gX S21 8 0 x0).bind fun v22 =>
    (ckd S21 a15 11).bind fun _ =>
    bd2 (fHe_reads a15 v22 a7 S21) fun r26 S27 =>
    if r26 = 0 then
    ((pI S27 9 5 a7 2).bind fun S28 =>
    fLi_enter_46  x0 S28)
    else
    (fLi_enter_46  x0 S27))
    else
    (fLi_enter_46  x0 S14)
set_option maxRecDepth 100000 in
set_option maxHeartbeats 4000000 in
theorem wLi_enter {Γ : vG} (hR : gR Γ = rLi_enter) (hl : (gl Γ).flags = pinnedFlags ++ [noTraceFlag]) (x0 : Nat) (S : Sx) {X : Int32 × Sx} (h : fLi_enter x0 S = some X) : vV Γ tLi_enter (mQ Γ 0 0 0 (some (.int X.1)) X.2) S 0 0 0 [(0, .ref x0)] [] := by
  unfold fLi_enter at h
  refine v_aload_n (pc := 0) (show decode (tC tLi_enter) 0 = .ok (.aload_n 0, 1) by decide +kernel) 0 rfl rfl ?_
  refine v_aload_n (pc := 1) (show decode (tC tLi_enter) 1 = .ok (.aload_n 0, 1) by decide +kernel) 0 rfl rfl ?_
  obtain ⟨v1, e2, h⟩ := ob h
  refine v_getI (pc := 2) oF_Li_56 (by decide) e2 (show decode (tC tLi_enter) 2 = .ok (.getfield 56, 3) by decide +kernel) ?_
  obtain ⟨_, e4, h⟩ := ob h
  obtain ⟨r5, S6, e3, h⟩ := ob2 h
  have h9 := ob h
  clear h
  obtain ⟨a7, e8, h⟩ := h9
  subst e8
  refine v_call (pc := 5) (v := (some (.ref a7))) (y := yLi_placeOf) (θ' := tLi_placeOf) (rm := rLi_placeOf) (av := [.ref x0, .int v1]) (st := []) (cLi_placeOf (l := gl Γ) hl e3) kLi_placeOf iLi_placeOf (iv_virt (y := yLi_placeOf) (θ' := tLi_placeOf) (kd := 8) (As := [.int v1]) rfl (ckd_of e4) kLi_placeOf (gT_in 988 (by decide +kernel) rfl) nLi_placeOf lLi_placeOf mLi_placeOf rfl (show decode (tC tLi_enter) 5 = .ok (.invokevirtual 65, 3) by decide +kernel)) ⟨by rw [hR]; decide, by rw [hR]; decide, by rw [hR]; decide, by rw [hR]; decide⟩ (Nat.le_of_ble_eq_true rfl) ?_
  refine v_astore_n (pc := 8) [(1, .ref a7), (0, .ref x0)] (show decode (tC tLi_enter) 8 = .ok (.astore_n 1, 1) by decide +kernel) rfl (by decide) rfl ?_
  refine v_aload_n (pc := 9) (show decode (tC tLi_enter) 9 = .ok (.aload_n 0, 1) by decide +kernel) 1 rfl rfl ?_
  refine v_aload_n (pc := 10) (show decode (tC tLi_enter) 10 = .ok (.aload_n 0, 1) by decide +kernel) 1 rfl rfl ?_
  obtain ⟨v9, e10, h⟩ := ob h
  refine v_getI (pc := 11) oF_Li_56 (by decide) e10 (show decode (tC tLi_enter) 11 = .ok (.getfield 56, 3) by decide +kernel) ?_
  obtain ⟨_, e12, h⟩ := ob h
  obtain ⟨r13, S14, e11, h⟩ := ob2 h
  have h9 := ob h
  clear h
  obtain ⟨a15, e16, h⟩ := h9
  subst e16
  refine v_call (pc := 14) (v := (some (.ref a15))) (y := yLi_headerOf) (θ' := tLi_headerOf) (rm := rLi_headerOf) (av := [.ref x0, .int v9]) (st := []) (cLi_headerOf (l := gl Γ) hl e11) kLi_headerOf iLi_headerOf (iv_virt (y := yLi_headerOf) (θ' := tLi_headerOf) (kd := 8) (As := [.int v9]) rfl (ckd_of e12) kLi_headerOf (gT_in 1041 (by decide +kernel) rfl) nLi_headerOf lLi_headerOf mLi_headerOf rfl (show decode (tC tLi_enter) 14 = .ok (.invokevirtual 87, 3) by decide +kernel)) ⟨by rw [hR]; decide, by rw [hR]; decide, by rw [hR]; decide, by rw [hR]; decide⟩ (Nat.le_of_ble_eq_true rfl) ?_
  refine v_astore_n (pc := 17) [(2, .ref a15), (1, .ref a7), (0, .ref x0)] (show decode (tC tLi_enter) 17 = .ok (.astore_n 2, 1) by decide +kernel) rfl (by decide) rfl ?_
  refine v_aload_n (pc := 18) (show decode (tC tLi_enter) 18 = .ok (.aload_n 1, 1) by decide +kernel) 1 rfl rfl ?_
  obtain ⟨v17, e18, h⟩ := ob h
  refine v_getI (pc := 19) oF_Li_91 (by decide) e18 (show decode (tC tLi_enter) 19 = .ok (.getfield 91, 3) by decide +kernel) ?_
  refine v_if_ne (pc := 22) 46 (show decode (tC tLi_enter) 22 = .ok (.ifCond .ne 24, 3) by decide +kernel) (by decide) (fun c => ?_) (fun c => ?_)
  · replace h := ite_f c h
    refine v_sub [(0, .ref x0)] [2] rfl ?_
    exact wLi_enter_46 hR hl  x0 S14 h
  · replace h := ite_t c h
    refine v_aload_n (pc := 25) (show decode (tC tLi_enter) 25 = .ok (.aload_n 2, 1) by decide +kernel) 0 rfl rfl ?_
    obtain ⟨_, e20, h⟩ := ob h
    obtain ⟨S21, e19, h⟩ := ob h
    refine v_call (pc := 26) (v := none) (y := yHe_begin) (θ' := tHe_begin) (rm := rHe_begin) (av := [.ref a15]) (st := []) (cHe_begin (l := gl Γ) hl e19) kHe_begin iHe_begin (iv_virt (y := yHe_begin) (θ' := tHe_begin) (kd := 11) (As := []) rfl (ckd_of e20) kHe_begin (gT_in 1055 (by decide +kernel) rfl) nHe_begin lHe_begin mHe_begin rfl (show decode (tC tLi_enter) 26 = .ok (.invokevirtual 94, 3) by decide +kernel)) ⟨by rw [hR]; decide, by rw [hR]; decide, by rw [hR]; decide, by rw [hR]; decide⟩ (Nat.le_of_ble_eq_true rfl) ?_
    refine v_aload_n (pc := 29) (show decode (tC tLi_enter) 29 = .ok (.aload_n 2, 1) by decide +kernel) 0 rfl rfl ?_
    refine v_aload_n (pc := 30) (show decode (tC tLi_enter) 30 = .ok (.aload_n 0, 1) by decide +kernel) 2 rfl rfl ?_
    obtain ⟨v22, e23, h⟩ := ob h
    refine v_getX (pc := 31) oF_Li_12 e23 (show decode (tC tLi_enter) 31 = .ok (.getfield 12, 3) by decide +kernel) ?_
    refine v_aload_n (pc := 34) (show decode (tC tLi_enter) 34 = .ok (.aload_n 1, 1) by decide +kernel) 1 rfl rfl ?_
    obtain ⟨_, e25, h⟩ := ob h
    obtain ⟨r26, S27, e24, h⟩ := ob2 h
    refine v_call (pc := 35) (v := (some (.int r26))) (y := yHe_reads) (θ' := tHe_reads) (rm := rHe_reads) (av := [.ref a15, .ref v22, .ref a7]) (st := []) (cHe_reads (l := gl Γ) hl e24) kHe_reads iHe_reads (iv_virt (y := yHe_reads) (θ' := tHe_reads) (kd := 11) (As := [.ref v22, .ref a7]) rfl (ckd_of e25) kHe_reads (gT_in 1060 (by decide +kernel) rfl) nHe_reads lHe_reads mHe_reads rfl (show decode (tC tLi_enter) 35 = .ok (.invokevirtual 97, 3) by decide +kernel)) ⟨by rw [hR]; decide, by rw [hR]; decide, by rw [hR]; decide, by rw [hR]; decide⟩ (Nat.le_of_ble_eq_true rfl) ?_
    refine v_if_ne (pc := 38) 46 (show decode (tC tLi_enter) 38 = .ok (.ifCond .ne 8, 3) by decide +kernel) (by decide) (fun c => ?_) (fun c => ?_)
    · replace h := ite_f c h
      refine v_sub [(0, .ref x0)] [2] rfl ?_
      exact wLi_enter_46 hR hl  x0 S27 h
    · replace h := ite_t c h
      refine v_aload_n (pc := 41) (show decode (tC tLi_enter) 41 = .ok (.aload_n 1, 1) by decide +kernel) 1 rfl rfl ?_
      refine v_iconst (pc := 42) (v := 2) (show decode (tC tLi_enter) 42 = .ok (.iconst 2, 1) by decide +kernel) (by decide) ?_
      obtain ⟨S28, e29, h⟩ := ob h
      refine v_putI (pc := 43) oF_Li_101 (fin_ok (kd := 9) (k := 5) (by decide +kernel)) e29 (show decode (tC tLi_enter) 43 = .ok (.putfield 101, 3) by decide +kernel) ?_
      refine v_sub [(0, .ref x0)] [2] rfl ?_
      exact wLi_enter_46 hR hl  x0 S28 h
theorem cLi_enter {l : Launch} (hl : l.flags = pinnedFlags ++ [noTraceFlag]) {D : va_G} {dA : Nat → ClassId} {B : Nat} {x0 : Nat} {S : Sx} {X : Int32 × Sx} (h : fLi_enter x0 S = some X) : Mx l yLi_enter tLi_enter rLi_enter 0 0 D dA B S [.ref x0] 0 (some (.int X.1)) X.2 :=
  mx_of hl (by decide) rfl rfl (Nat.le_of_ble_eq_true rfl) (fun Γ e1 e2 e3 e4 e5 => by subst e1; subst e3; subst e4; subst e5; exact wLi_enter e2 hl x0 S h)
/-! MatchPipe$Line.leave(I)V -/
def yLi_leave : MethodName := ⟨"MatchPipe$Line", "leave", "(I)V"⟩
def tLi_leave : tM := (prog_7_method_11_code, "MatchPipe$Line", 4, "leave", none, [])
def rLi_leave : Room := { frames := 3, cells := 0, slots := 0, locals := 77 }
theorem kLi_leave : cOf yLi_leave tLi_leave ∈ gT := gT_in 1039 (by decide +kernel) rfl
theorem iLi_leave : Cond.initialized yLi_leave.cls ∈ gT := gT_in 56 (by decide +kernel) rfl
theorem mLi_leave : okM yLi_leave 1 := ⟨by decide, by decide, by unfold nPar; decide +kernel⟩
theorem nLi_leave : Cond.instanceMethod yLi_leave ∈ gT := gT_in 1038 (by decide +kernel) rfl
theorem lLi_leave : Cond.selects "MatchPipe$Line" yLi_leave yLi_leave ∈ gT := gT_in 12 (by decide +kernel) rfl
def fLi_leave (x0 : Nat) (x1 : Int32) (S : Sx) : Option (Sx) :=
    (ckd S x0 8).bind fun _ =>
    bd2 (fLi_placeOf x0 x1 S) fun r3 S4 =>
    r3.bind fun a5 =>
    (gI S4 8 9 x0).bind fun v7 =>
    (pI S4 9 7 a5 v7).bind fun S9 =>
    (gI S9 8 8 x0).bind fun v11 =>
    (pI S9 8 8 x0 (v11 + 1)).bind fun S13 =>
    (ckd S13 a5 9).bind fun _ =>
    bd2 (fOp_isWhole a5 S13) fun r17 S18 =>
    if r17 = 0 then
    (some S18)
    else
    ((ckd S18 x0 8).bind fun _ =>
    bd2 (fLi_headerOf x0 x1 S18) fun r21 S22 =>
    r21.bind fun a23 =>
    (gX S22 8 0 x0).bind fun v25 =>
    (ckd S22 a23 11).bind fun _ =>
    (fHe_putBack a23 v25 a5 S22).bind fun S29 =>
    (gI S29 11 6 a23).bind fun v30 =>
    (pI S29 9 6 a5 v30).bind fun S32 =>
    (gI S32 11 7 a23).bind fun v34 =>
    if v34 = 0 then
    (some S32)
    else
    ((pI S32 9 5 a5 1).bind fun S36 =>
    some S36))
set_option maxRecDepth 100000 in
set_option maxHeartbeats 4000000 in
theorem wLi_leave {Γ : vG} (hR : gR Γ = rLi_leave) (hl : (gl Γ).flags = pinnedFlags ++ [noTraceFlag]) (x0 : Nat) (x1 : Int32) (S : Sx) {X : Sx} (h : fLi_leave x0 x1 S = some X) : vV Γ tLi_leave (mQ Γ 0 0 0 none X) S 0 0 0 [(0, .ref x0), (1, .int x1)] [] := by
  unfold fLi_leave at h
  refine v_aload_n (pc := 0) (show decode (tC tLi_leave) 0 = .ok (.aload_n 0, 1) by decide +kernel) 0 rfl rfl ?_
  refine v_iload_n (pc := 1) (show decode (tC tLi_leave) 1 = .ok (.iload_n 1, 1) by decide +kernel) 1 rfl rfl ?_
  obtain ⟨_, e2, h⟩ := ob h
  obtain ⟨r3, S4, e1, h⟩ := ob2 h
  have h9 := ob h
  clear h
  obtain ⟨a5, e6, h⟩ := h9
  subst e6
  refine v_call (pc := 2) (v := (some (.ref a5))) (y := yLi_placeOf) (θ' := tLi_placeOf) (rm := rLi_placeOf) (av := [.ref x0, .int x1]) (st := []) (cLi_placeOf (l := gl Γ) hl e1) kLi_placeOf iLi_placeOf (iv_virt (y := yLi_placeOf) (θ' := tLi_placeOf) (kd := 8) (As := [.int x1]) rfl (ckd_of e2) kLi_placeOf (gT_in 988 (by decide +kernel) rfl) nLi_placeOf lLi_placeOf mLi_placeOf rfl (show decode (tC tLi_leave) 2 = .ok (.invokevirtual 65, 3) by decide +kernel)) ⟨by rw [hR]; decide, by rw [hR]; decide, by rw [hR]; decide, by rw [hR]; decide⟩ (Nat.le_of_ble_eq_true rfl) ?_
  refine v_astore_n (pc := 5) [(2, .ref a5), (0, .ref x0), (1, .int x1)] (show decode (tC tLi_leave) 5 = .ok (.astore_n 2, 1) by decide +kernel) rfl (by decide) rfl ?_
  refine v_aload_n (pc := 6) (show decode (tC tLi_leave) 6 = .ok (.aload_n 2, 1) by decide +kernel) 0 rfl rfl ?_
  refine v_aload_n (pc := 7) (show decode (tC tLi_leave) 7 = .ok (.aload_n 0, 1) by decide +kernel) 1 rfl rfl ?_
  obtain ⟨v7, e8, h⟩ := ob h
  refine v_getI (pc := 8) oF_Li_62 (by decide) e8 (show decode (tC tLi_leave) 8 = .ok (.getfield 62, 3) by decide +kernel) ?_
  obtain ⟨S9, e10, h⟩ := ob h
  refine v_putI (pc := 11) oF_Li_104 (fin_ok (kd := 9) (k := 7) (by decide +kernel)) e10 (show decode (tC tLi_leave) 11 = .ok (.putfield 104, 3) by decide +kernel) ?_
  refine v_aload_n (pc := 14) (show decode (tC tLi_leave) 14 = .ok (.aload_n 0, 1) by decide +kernel) 1 rfl rfl ?_
  refine v_dup (pc := 15) (show decode (tC tLi_leave) 15 = .ok (.dup, 1) by decide +kernel) rfl ?_
  obtain ⟨v11, e12, h⟩ := ob h
  refine v_getI (pc := 16) oF_Li_59 (by decide) e12 (show decode (tC tLi_leave) 16 = .ok (.getfield 59, 3) by decide +kernel) ?_
  refine v_iconst (pc := 19) (v := 1) (show decode (tC tLi_leave) 19 = .ok (.iconst 1, 1) by decide +kernel) (by decide) ?_
  refine v_iadd (pc := 20) (show decode (tC tLi_leave) 20 = .ok (.iadd, 1) by decide +kernel) ?_
  obtain ⟨S13, e14, h⟩ := ob h
  refine v_putI (pc := 21) oF_Li_59 (fin_ok (kd := 8) (k := 8) (by decide +kernel)) e14 (show decode (tC tLi_leave) 21 = .ok (.putfield 59, 3) by decide +kernel) ?_
  refine v_aload_n (pc := 24) (show decode (tC tLi_leave) 24 = .ok (.aload_n 2, 1) by decide +kernel) 0 rfl rfl ?_
  obtain ⟨_, e16, h⟩ := ob h
  obtain ⟨r17, S18, e15, h⟩ := ob2 h
  refine v_call (pc := 25) (v := (some (.int r17))) (y := yOp_isWhole) (θ' := tOp_isWhole) (rm := rOp_isWhole) (av := [.ref a5]) (st := []) (cOp_isWhole (l := gl Γ) hl e15) kOp_isWhole iOp_isWhole (iv_virt (y := yOp_isWhole) (θ' := tOp_isWhole) (kd := 9) (As := []) rfl (ckd_of e16) kOp_isWhole (gT_in 1040 (by decide +kernel) rfl) nOp_isWhole lOp_isWhole mOp_isWhole rfl (show decode (tC tLi_leave) 25 = .ok (.invokevirtual 107, 3) by decide +kernel)) ⟨by rw [hR]; decide, by rw [hR]; decide, by rw [hR]; decide, by rw [hR]; decide⟩ (Nat.le_of_ble_eq_true rfl) ?_
  refine v_if_ne (pc := 28) 32 (show decode (tC tLi_leave) 28 = .ok (.ifCond .ne 4, 3) by decide +kernel) (by decide) (fun c => ?_) (fun c => ?_)
  · replace h := ite_f c h
    refine v_aload_n (pc := 32) (show decode (tC tLi_leave) 32 = .ok (.aload_n 0, 1) by decide +kernel) 1 rfl rfl ?_
    refine v_iload_n (pc := 33) (show decode (tC tLi_leave) 33 = .ok (.iload_n 1, 1) by decide +kernel) 2 rfl rfl ?_
    obtain ⟨_, e20, h⟩ := ob h
    obtain ⟨r21, S22, e19, h⟩ := ob2 h
    have h9 := ob h
    clear h
    obtain ⟨a23, e24, h⟩ := h9
    subst e24
    refine v_call (pc := 34) (v := (some (.ref a23))) (y := yLi_headerOf) (θ' := tLi_headerOf) (rm := rLi_headerOf) (av := [.ref x0, .int x1]) (st := []) (cLi_headerOf (l := gl Γ) hl e19) kLi_headerOf iLi_headerOf (iv_virt (y := yLi_headerOf) (θ' := tLi_headerOf) (kd := 8) (As := [.int x1]) rfl (ckd_of e20) kLi_headerOf (gT_in 1041 (by decide +kernel) rfl) nLi_headerOf lLi_headerOf mLi_headerOf rfl (show decode (tC tLi_leave) 34 = .ok (.invokevirtual 87, 3) by decide +kernel)) ⟨by rw [hR]; decide, by rw [hR]; decide, by rw [hR]; decide, by rw [hR]; decide⟩ (Nat.le_of_ble_eq_true rfl) ?_
    refine v_astore_n (pc := 37) [(3, .ref a23), (2, .ref a5), (0, .ref x0), (1, .int x1)] (show decode (tC tLi_leave) 37 = .ok (.astore_n 3, 1) by decide +kernel) rfl (by decide) rfl ?_
    refine v_aload_n (pc := 38) (show decode (tC tLi_leave) 38 = .ok (.aload_n 3, 1) by decide +kernel) 0 rfl rfl ?_
    refine v_aload_n (pc := 39) (show decode (tC tLi_leave) 39 = .ok (.aload_n 0, 1) by decide +kernel) 2 rfl rfl ?_
    obtain ⟨v25, e26, h⟩ := ob h
    refine v_getX (pc := 40) oF_Li_12 e26 (show decode (tC tLi_leave) 40 = .ok (.getfield 12, 3) by decide +kernel) ?_
    refine v_aload_n (pc := 43) (show decode (tC tLi_leave) 43 = .ok (.aload_n 2, 1) by decide +kernel) 1 rfl rfl ?_
    obtain ⟨_, e28, h⟩ := ob h
    obtain ⟨S29, e27, h⟩ := ob h
    refine v_call (pc := 44) (v := none) (y := yHe_putBack) (θ' := tHe_putBack) (rm := rHe_putBack) (av := [.ref a23, .ref v25, .ref a5]) (st := []) (cHe_putBack (l := gl Γ) hl e27) kHe_putBack iHe_putBack (iv_virt (y := yHe_putBack) (θ' := tHe_putBack) (kd := 11) (As := [.ref v25, .ref a5]) rfl (ckd_of e28) kHe_putBack (gT_in 1045 (by decide +kernel) rfl) nHe_putBack lHe_putBack mHe_putBack rfl (show decode (tC tLi_leave) 44 = .ok (.invokevirtual 111, 3) by decide +kernel)) ⟨by rw [hR]; decide, by rw [hR]; decide, by rw [hR]; decide, by rw [hR]; decide⟩ (Nat.le_of_ble_eq_true rfl) ?_
    refine v_aload_n (pc := 47) (show decode (tC tLi_leave) 47 = .ok (.aload_n 2, 1) by decide +kernel) 1 rfl rfl ?_
    refine v_aload_n (pc := 48) (show decode (tC tLi_leave) 48 = .ok (.aload_n 3, 1) by decide +kernel) 0 rfl rfl ?_
    obtain ⟨v30, e31, h⟩ := ob h
    refine v_getI (pc := 49) oF_Li_115 (by decide) e31 (show decode (tC tLi_leave) 49 = .ok (.getfield 115, 3) by decide +kernel) ?_
    obtain ⟨S32, e33, h⟩ := ob h
    refine v_putI (pc := 52) oF_Li_118 (fin_ok (kd := 9) (k := 6) (by decide +kernel)) e33 (show decode (tC tLi_leave) 52 = .ok (.putfield 118, 3) by decide +kernel) ?_
    refine v_aload_n (pc := 55) (show decode (tC tLi_leave) 55 = .ok (.aload_n 3, 1) by decide +kernel) 0 rfl rfl ?_
    obtain ⟨v34, e35, h⟩ := ob h
    refine v_getI (pc := 56) oF_Li_119 (by decide) e35 (show decode (tC tLi_leave) 56 = .ok (.getfield 119, 3) by decide +kernel) ?_
    refine v_if_eq (pc := 59) 67 (show decode (tC tLi_leave) 59 = .ok (.ifCond .eq 8, 3) by decide +kernel) (by decide) (fun c => ?_) (fun c => ?_)
    · replace h := ite_t c h
      obtain rfl := Option.some.inj h
      refine v_wide (ce2 := 0) (sl2 := 0) (by decide) (by decide) ?_
      exact v_vret (pc := 67) rfl (show decode (tC tLi_leave) 67 = .ok (.return_, 1) by decide +kernel)
    · replace h := ite_f c h
      refine v_aload_n (pc := 62) (show decode (tC tLi_leave) 62 = .ok (.aload_n 2, 1) by decide +kernel) 1 rfl rfl ?_
      refine v_iconst (pc := 63) (v := 1) (show decode (tC tLi_leave) 63 = .ok (.iconst 1, 1) by decide +kernel) (by decide) ?_
      obtain ⟨S36, e37, h⟩ := ob h
      refine v_putI (pc := 64) oF_Li_101 (fin_ok (kd := 9) (k := 5) (by decide +kernel)) e37 (show decode (tC tLi_leave) 64 = .ok (.putfield 101, 3) by decide +kernel) ?_
      obtain rfl := Option.some.inj h
      refine v_wide (ce2 := 0) (sl2 := 0) (by decide) (by decide) ?_
      exact v_vret (pc := 67) rfl (show decode (tC tLi_leave) 67 = .ok (.return_, 1) by decide +kernel)
  · replace h := ite_t c h
    obtain rfl := Option.some.inj h
    refine v_wide (ce2 := 0) (sl2 := 0) (by decide) (by decide) ?_
    exact v_vret (pc := 31) rfl (show decode (tC tLi_leave) 31 = .ok (.return_, 1) by decide +kernel)
theorem cLi_leave {l : Launch} (hl : l.flags = pinnedFlags ++ [noTraceFlag]) {D : va_G} {dA : Nat → ClassId} {B : Nat} {x0 : Nat} {x1 : Int32} {S : Sx} {X : Sx} (h : fLi_leave x0 x1 S = some X) : Mx l yLi_leave tLi_leave rLi_leave 0 0 D dA B S [.ref x0, .int x1] 0 none X :=
  mx_of hl (by decide) rfl rfl (Nat.le_of_ble_eq_true rfl) (fun Γ e1 e2 e3 e4 e5 => by subst e1; subst e3; subst e4; subst e5; exact wLi_leave e2 hl x0 x1 S h)
/-! MatchPipe$Line.changeTable(LMatchPipe$Operation;)V -/
def yLi_changeTable : MethodName := ⟨"MatchPipe$Line", "changeTable", "(LMatchPipe$Operation;)V"⟩
def tLi_changeTable : tM := (prog_7_method_13_code, "MatchPipe$Line", 4, "changeTable", none, [])
def rLi_changeTable : Room := { frames := 3, cells := 0, slots := 0, locals := 67 }
theorem kLi_changeTable : cOf yLi_changeTable tLi_changeTable ∈ gT := gT_in 1081 (by decide +kernel) rfl
theorem iLi_changeTable : Cond.initialized yLi_changeTable.cls ∈ gT := gT_in 56 (by decide +kernel) rfl
theorem mLi_changeTable : okM yLi_changeTable 1 := ⟨by decide, by decide, by unfold nPar; decide +kernel⟩
theorem nLi_changeTable : Cond.instanceMethod yLi_changeTable ∈ gT := gT_in 1080 (by decide +kernel) rfl
theorem lLi_changeTable : Cond.selects "MatchPipe$Line" yLi_changeTable yLi_changeTable ∈ gT := gT_in 17 (by decide +kernel) rfl
def fLi_changeTable_40  (x1 : Nat) (z0 : Int32) (S : Sx) : Option (Sx) :=
    if z0 = 0 then
    ((pI S 9 5 x1 1).bind fun S1 =>
    some S1)
    else
    ((pI S 9 5 x1 0).bind fun S3 =>
    some S3)
set_option maxRecDepth 100000 in
set_option maxHeartbeats 4000000 in
theorem wLi_changeTable_40 {Γ : vG} (hR : gR Γ = rLi_changeTable) (hl : (gl Γ).flags = pinnedFlags ++ [noTraceFlag]) {X : Sx}  : ∀ (x1 : Nat) (z0 : Int32) (S : Sx), fLi_changeTable_40  x1 z0 S = some X → vV Γ tLi_changeTable (mQ Γ 0 0 0 none X) S 0 0 40 [(1, .ref x1)] [.int z0] := by
  intro x1 z0 S h
  unfold fLi_changeTable_40 at h
  refine v_istore_n (pc := 40) [(3, .int z0), (1, .ref x1)] (show decode (tC tLi_changeTable) 40 = .ok (.istore_n 3, 1) by decide +kernel) rfl (by decide) rfl ?_
  refine v_aload_n (pc := 41) (show decode (tC tLi_changeTable) 41 = .ok (.aload_n 1, 1) by decide +kernel) 1 rfl rfl ?_
  refine v_iload_n (pc := 42) (show decode (tC tLi_changeTable) 42 = .ok (.iload_n 3, 1) by decide +kernel) 0 rfl rfl ?_
  refine v_if_eq (pc := 43) 50 (show decode (tC tLi_changeTable) 43 = .ok (.ifCond .eq 7, 3) by decide +kernel) (by decide) (fun c => ?_) (fun c => ?_)
  · replace h := ite_t c h
    refine v_iconst (pc := 50) (v := 1) (show decode (tC tLi_changeTable) 50 = .ok (.iconst 1, 1) by decide +kernel) (by decide) ?_
    obtain ⟨S1, e2, h⟩ := ob h
    refine v_putI (pc := 51) oF_Li_101 (fin_ok (kd := 9) (k := 5) (by decide +kernel)) e2 (show decode (tC tLi_changeTable) 51 = .ok (.putfield 101, 3) by decide +kernel) ?_
    obtain rfl := Option.some.inj h
    refine v_wide (ce2 := 0) (sl2 := 0) (by decide) (by decide) ?_
    exact v_vret (pc := 54) rfl (show decode (tC tLi_changeTable) 54 = .ok (.return_, 1) by decide +kernel)
  · replace h := ite_f c h
    refine v_iconst (pc := 46) (v := 0) (show decode (tC tLi_changeTable) 46 = .ok (.iconst 0, 1) by decide +kernel) (by decide) ?_
    refine v_goto (pc := 47) 51 (show decode (tC tLi_changeTable) 47 = .ok (.goto 4, 3) by decide +kernel) (by decide) ?_
    obtain ⟨S3, e4, h⟩ := ob h
    refine v_putI (pc := 51) oF_Li_101 (fin_ok (kd := 9) (k := 5) (by decide +kernel)) e4 (show decode (tC tLi_changeTable) 51 = .ok (.putfield 101, 3) by decide +kernel) ?_
    obtain rfl := Option.some.inj h
    refine v_wide (ce2 := 0) (sl2 := 0) (by decide) (by decide) ?_
    exact v_vret (pc := 54) rfl (show decode (tC tLi_changeTable) 54 = .ok (.return_, 1) by decide +kernel)
def fLi_changeTable (x0 : Nat) (x1 : Nat) (S : Sx) : Option (Sx) :=
    (gX S 8 0 x0).bind fun v1 =>
    (gX S 1 3 v1).bind fun v3 =>
    (gI S 9 4 x1).bind fun v5 =>
    (aX S 4 v3 v5).bind fun v7 =>
    (gI S 9 3 x1).bind fun v9 =>
    if v9 = 1 then
    ((gX S 9 0 x1).bind fun v17 =>
    (ckd S v7 4).bind fun _ =>
    bd2 (fTa_takesIn v7 v17 S) fun r21 S22 =>
    fLi_changeTable_40  x1 r21 S22)
    else
    ((gX S 9 0 x1).bind fun v11 =>
    (ckd S v7 4).bind fun _ =>
    bd2 (fTa_letsGo v7 v11 S) fun r15 S16 =>
    fLi_changeTable_40  x1 r15 S16)
set_option maxRecDepth 100000 in
set_option maxHeartbeats 4000000 in
theorem wLi_changeTable {Γ : vG} (hR : gR Γ = rLi_changeTable) (hl : (gl Γ).flags = pinnedFlags ++ [noTraceFlag]) (x0 : Nat) (x1 : Nat) (S : Sx) {X : Sx} (h : fLi_changeTable x0 x1 S = some X) : vV Γ tLi_changeTable (mQ Γ 0 0 0 none X) S 0 0 0 [(0, .ref x0), (1, .ref x1)] [] := by
  unfold fLi_changeTable at h
  refine v_aload_n (pc := 0) (show decode (tC tLi_changeTable) 0 = .ok (.aload_n 0, 1) by decide +kernel) 0 rfl rfl ?_
  obtain ⟨v1, e2, h⟩ := ob h
  refine v_getX (pc := 1) oF_Li_12 e2 (show decode (tC tLi_changeTable) 1 = .ok (.getfield 12, 3) by decide +kernel) ?_
  obtain ⟨v3, e4, h⟩ := ob h
  refine v_getX (pc := 4) oF_Li_147 e4 (show decode (tC tLi_changeTable) 4 = .ok (.getfield 147, 3) by decide +kernel) ?_
  refine v_aload_n (pc := 7) (show decode (tC tLi_changeTable) 7 = .ok (.aload_n 1, 1) by decide +kernel) 1 rfl rfl ?_
  obtain ⟨v5, e6, h⟩ := ob h
  refine v_getI (pc := 8) oF_Li_126 (by decide) e6 (show decode (tC tLi_changeTable) 8 = .ok (.getfield 126, 3) by decide +kernel) ?_
  obtain ⟨v7, e8, h⟩ := ob h
  refine v_aald (pc := 11) (kd := 4) rfl e8 (show decode (tC tLi_changeTable) 11 = .ok (.aaload, 1) by decide +kernel) ?_
  refine v_astore_n (pc := 12) [(2, .ref v7), (0, .ref x0), (1, .ref x1)] (show decode (tC tLi_changeTable) 12 = .ok (.astore_n 2, 1) by decide +kernel) rfl (by decide) rfl ?_
  refine v_aload_n (pc := 13) (show decode (tC tLi_changeTable) 13 = .ok (.aload_n 1, 1) by decide +kernel) 2 rfl rfl ?_
  obtain ⟨v9, e10, h⟩ := ob h
  refine v_getI (pc := 14) oF_Li_91 (by decide) e10 (show decode (tC tLi_changeTable) 14 = .ok (.getfield 91, 3) by decide +kernel) ?_
  refine v_iconst (pc := 17) (v := 1) (show decode (tC tLi_changeTable) 17 = .ok (.iconst 1, 1) by decide +kernel) (by decide) ?_
  refine v_icmp_ne (pc := 18) 32 (show decode (tC tLi_changeTable) 18 = .ok (.if_icmp .ne 14, 3) by decide +kernel) (by decide) (fun c => ?_) (fun c => ?_)
  · replace h := ite_f c h
    refine v_aload_n (pc := 32) (show decode (tC tLi_changeTable) 32 = .ok (.aload_n 2, 1) by decide +kernel) 0 rfl rfl ?_
    refine v_aload_n (pc := 33) (show decode (tC tLi_changeTable) 33 = .ok (.aload_n 1, 1) by decide +kernel) 2 rfl rfl ?_
    obtain ⟨v11, e12, h⟩ := ob h
    refine v_getX (pc := 34) oF_Li_151 e12 (show decode (tC tLi_changeTable) 34 = .ok (.getfield 151, 3) by decide +kernel) ?_
    obtain ⟨_, e14, h⟩ := ob h
    obtain ⟨r15, S16, e13, h⟩ := ob2 h
    refine v_call (pc := 37) (v := (some (.int r15))) (y := yTa_letsGo) (θ' := tTa_letsGo) (rm := rTa_letsGo) (av := [.ref v7, .ref v11]) (st := []) (cTa_letsGo (l := gl Γ) hl e13) kTa_letsGo iTa_letsGo (iv_virt (y := yTa_letsGo) (θ' := tTa_letsGo) (kd := 4) (As := [.ref v11]) rfl (ckd_of e14) kTa_letsGo (gT_in 1103 (by decide +kernel) rfl) nTa_letsGo lTa_letsGo mTa_letsGo rfl (show decode (tC tLi_changeTable) 37 = .ok (.invokevirtual 161, 3) by decide +kernel)) ⟨by rw [hR]; decide, by rw [hR]; decide, by rw [hR]; decide, by rw [hR]; decide⟩ (Nat.le_of_ble_eq_true rfl) ?_
    refine v_sub [(1, .ref x1)] [2] rfl ?_
    exact wLi_changeTable_40 hR hl  x1 r15 S16 h
  · replace h := ite_t c h
    refine v_aload_n (pc := 21) (show decode (tC tLi_changeTable) 21 = .ok (.aload_n 2, 1) by decide +kernel) 0 rfl rfl ?_
    refine v_aload_n (pc := 22) (show decode (tC tLi_changeTable) 22 = .ok (.aload_n 1, 1) by decide +kernel) 2 rfl rfl ?_
    obtain ⟨v17, e18, h⟩ := ob h
    refine v_getX (pc := 23) oF_Li_151 e18 (show decode (tC tLi_changeTable) 23 = .ok (.getfield 151, 3) by decide +kernel) ?_
    obtain ⟨_, e20, h⟩ := ob h
    obtain ⟨r21, S22, e19, h⟩ := ob2 h
    refine v_call (pc := 26) (v := (some (.int r21))) (y := yTa_takesIn) (θ' := tTa_takesIn) (rm := rTa_takesIn) (av := [.ref v7, .ref v17]) (st := []) (cTa_takesIn (l := gl Γ) hl e19) kTa_takesIn iTa_takesIn (iv_virt (y := yTa_takesIn) (θ' := tTa_takesIn) (kd := 4) (As := [.ref v17]) rfl (ckd_of e20) kTa_takesIn (gT_in 1082 (by decide +kernel) rfl) nTa_takesIn lTa_takesIn mTa_takesIn rfl (show decode (tC tLi_changeTable) 26 = .ok (.invokevirtual 155, 3) by decide +kernel)) ⟨by rw [hR]; decide, by rw [hR]; decide, by rw [hR]; decide, by rw [hR]; decide⟩ (Nat.le_of_ble_eq_true rfl) ?_
    refine v_goto (pc := 29) 40 (show decode (tC tLi_changeTable) 29 = .ok (.goto 11, 3) by decide +kernel) (by decide) ?_
    refine v_sub [(1, .ref x1)] [2] rfl ?_
    exact wLi_changeTable_40 hR hl  x1 r21 S22 h
theorem cLi_changeTable {l : Launch} (hl : l.flags = pinnedFlags ++ [noTraceFlag]) {D : va_G} {dA : Nat → ClassId} {B : Nat} {x0 : Nat} {x1 : Nat} {S : Sx} {X : Sx} (h : fLi_changeTable x0 x1 S = some X) : Mx l yLi_changeTable tLi_changeTable rLi_changeTable 0 0 D dA B S [.ref x0, .ref x1] 0 none X :=
  mx_of hl (by decide) rfl rfl (Nat.le_of_ble_eq_true rfl) (fun Γ e1 e2 e3 e4 e5 => by subst e1; subst e3; subst e4; subst e5; exact wLi_changeTable e2 hl x0 x1 S h)
/-! MatchPipe$Line.doTable(LMatchPipe$Table;LMatchPipe$Header;)V -/
def yLi_doTable : MethodName := ⟨"MatchPipe$Line", "doTable", "(LMatchPipe$Table;LMatchPipe$Header;)V"⟩
def tLi_doTable : tM := (prog_7_method_15_code, "MatchPipe$Line", 6, "doTable", none, [])
def rLi_doTable : Room := { frames := 3, cells := 0, slots := 0, locals := 68 }
theorem kLi_doTable : cOf yLi_doTable tLi_doTable ∈ gT := gT_in 1115 (by decide +kernel) rfl
theorem iLi_doTable : Cond.initialized yLi_doTable.cls ∈ gT := gT_in 56 (by decide +kernel) rfl
theorem mLi_doTable : okM yLi_doTable 2 := ⟨by decide, by decide, by unfold nPar; decide +kernel⟩
theorem nLi_doTable : Cond.instanceMethod yLi_doTable ∈ gT := gT_in 1114 (by decide +kernel) rfl
theorem lLi_doTable : Cond.selects "MatchPipe$Line" yLi_doTable yLi_doTable ∈ gT := gT_in 20 (by decide +kernel) rfl
def fLi_doTable_55  (x0 : Nat) (x2 : Nat) (x4 : Option Nat) (z0 : Int32) (S : Sx) : Option (Sx) :=
    (gX S 8 0 x0).bind fun v1 =>
    (gX S 1 2 v1).bind fun v3 =>
    (aX S 3 v3 z0).bind fun v5 =>
    (gX S 8 0 x0).bind fun v7 =>
    (gX S 8 5 x0).bind fun v9 =>
    (ckd S x2 11).bind fun _ =>
    (fHe_perform x2 v5 x4 v7 v9 S).bind fun S13 =>
    some S13
set_option maxRecDepth 100000 in
set_option maxHeartbeats 4000000 in
theorem wLi_doTable_55 {Γ : vG} (hR : gR Γ = rLi_doTable) (hl : (gl Γ).flags = pinnedFlags ++ [noTraceFlag]) {X : Sx}  : ∀ (x0 : Nat) (x2 : Nat) (x4 : Option Nat) (z0 : Int32) (S : Sx), fLi_doTable_55  x0 x2 x4 z0 S = some X → vV Γ tLi_doTable (mQ Γ 0 0 0 none X) S 0 0 55 [(0, .ref x0), (2, .ref x2), (4, va_rf x4)] [.int z0] := by
  intro x0 x2 x4 z0 S h
  unfold fLi_doTable_55 at h
  refine v_istore (pc := 55) [(5, .int z0), (0, .ref x0), (2, .ref x2), (4, va_rf x4)] (show decode (tC tLi_doTable) 55 = .ok (.istore 5, 2) by decide +kernel) (by decide) (by cases x4 <;> rfl) ?_
  refine v_aload_n (pc := 57) (show decode (tC tLi_doTable) 57 = .ok (.aload_n 2, 1) by decide +kernel) 2 rfl rfl ?_
  refine v_aload_n (pc := 58) (show decode (tC tLi_doTable) 58 = .ok (.aload_n 0, 1) by decide +kernel) 1 rfl rfl ?_
  obtain ⟨v1, e2, h⟩ := ob h
  refine v_getX (pc := 59) oF_Li_12 e2 (show decode (tC tLi_doTable) 59 = .ok (.getfield 12, 3) by decide +kernel) ?_
  obtain ⟨v3, e4, h⟩ := ob h
  refine v_getX (pc := 62) oF_Li_205 e4 (show decode (tC tLi_doTable) 62 = .ok (.getfield 205, 3) by decide +kernel) ?_
  refine v_iload (pc := 65) (show decode (tC tLi_doTable) 65 = .ok (.iload 5, 2) by decide +kernel) 0 rfl ?_
  obtain ⟨v5, e6, h⟩ := ob h
  refine v_aald (pc := 67) (kd := 3) rfl e6 (show decode (tC tLi_doTable) 67 = .ok (.aaload, 1) by decide +kernel) ?_
  refine v_aloadq (pc := 68) (show decode (tC tLi_doTable) 68 = .ok (.aload 4, 2) by decide +kernel) 3 rfl ?_
  refine v_aload_n (pc := 70) (show decode (tC tLi_doTable) 70 = .ok (.aload_n 0, 1) by decide +kernel) 1 rfl rfl ?_
  obtain ⟨v7, e8, h⟩ := ob h
  refine v_getX (pc := 71) oF_Li_12 e8 (show decode (tC tLi_doTable) 71 = .ok (.getfield 12, 3) by decide +kernel) ?_
  refine v_aload_n (pc := 74) (show decode (tC tLi_doTable) 74 = .ok (.aload_n 0, 1) by decide +kernel) 1 rfl rfl ?_
  obtain ⟨v9, e10, h⟩ := ob h
  refine v_getX (pc := 75) oF_Li_41 e10 (show decode (tC tLi_doTable) 75 = .ok (.getfield 41, 3) by decide +kernel) ?_
  obtain ⟨_, e12, h⟩ := ob h
  obtain ⟨S13, e11, h⟩ := ob h
  refine v_call (pc := 78) (v := none) (y := yHe_perform) (θ' := tHe_perform) (rm := rHe_perform) (av := [.ref x2, .ref v5, va_rf x4, .ref v7, .ref v9]) (st := []) (cHe_perform (l := gl Γ) hl e11) kHe_perform iHe_perform (iv_virt (y := yHe_perform) (θ' := tHe_perform) (kd := 11) (As := [.ref v5, va_rf x4, .ref v7, .ref v9]) rfl (ckd_of e12) kHe_perform (gT_in 1138 (by decide +kernel) rfl) nHe_perform lHe_perform mHe_perform rfl (show decode (tC tLi_doTable) 78 = .ok (.invokevirtual 209, 3) by decide +kernel)) ⟨by rw [hR]; decide, by rw [hR]; decide, by rw [hR]; decide, by rw [hR]; decide⟩ (Nat.le_of_ble_eq_true rfl) ?_
  obtain rfl := Option.some.inj h
  refine v_wide (ce2 := 0) (sl2 := 0) (by decide) (by decide) ?_
  exact v_vret (pc := 81) rfl (show decode (tC tLi_doTable) 81 = .ok (.return_, 1) by decide +kernel)
def fLi_doTable_21  (x0 : Nat) (x1 : Nat) (x2 : Nat) (z0 : Int32) (S : Sx) : Option (Sx) :=
    (gX S 11 0 x2).bind fun v1 =>
    (gI S 4 2 x1).bind fun v3 =>
    (aI S v1 v3).bind fun v5 =>
    (ckd S x1 4).bind fun _ =>
    bd2 (fTa_best x1 v5 z0 S) fun r9 S10 =>
    oM r9
    ((gI S10 4 9 x1).bind fun v12 =>
    fLi_doTable_55  x0 x2 none v12 S10)
    (fun a11 => (gI S10 5 5 a11).bind fun v14 =>
    fLi_doTable_55  x0 x2 (some a11) v14 S10)
set_option maxRecDepth 100000 in
set_option maxHeartbeats 4000000 in
theorem wLi_doTable_21 {Γ : vG} (hR : gR Γ = rLi_doTable) (hl : (gl Γ).flags = pinnedFlags ++ [noTraceFlag]) {X : Sx}  : ∀ (x0 : Nat) (x1 : Nat) (x2 : Nat) (z0 : Int32) (S : Sx), fLi_doTable_21  x0 x1 x2 z0 S = some X → vV Γ tLi_doTable (mQ Γ 0 0 0 none X) S 0 0 21 [(0, .ref x0), (1, .ref x1), (2, .ref x2)] [.int z0] := by
  intro x0 x1 x2 z0 S h
  unfold fLi_doTable_21 at h
  refine v_istore_n (pc := 21) [(3, .int z0), (0, .ref x0), (1, .ref x1), (2, .ref x2)] (show decode (tC tLi_doTable) 21 = .ok (.istore_n 3, 1) by decide +kernel) rfl (by decide) rfl ?_
  refine v_aload_n (pc := 22) (show decode (tC tLi_doTable) 22 = .ok (.aload_n 1, 1) by decide +kernel) 2 rfl rfl ?_
  refine v_aload_n (pc := 23) (show decode (tC tLi_doTable) 23 = .ok (.aload_n 2, 1) by decide +kernel) 3 rfl rfl ?_
  obtain ⟨v1, e2, h⟩ := ob h
  refine v_getX (pc := 24) oF_Li_174 e2 (show decode (tC tLi_doTable) 24 = .ok (.getfield 174, 3) by decide +kernel) ?_
  refine v_aload_n (pc := 27) (show decode (tC tLi_doTable) 27 = .ok (.aload_n 1, 1) by decide +kernel) 2 rfl rfl ?_
  obtain ⟨v3, e4, h⟩ := ob h
  refine v_getI (pc := 28) oF_Li_190 (by decide) e4 (show decode (tC tLi_doTable) 28 = .ok (.getfield 190, 3) by decide +kernel) ?_
  obtain ⟨v5, e6, h⟩ := ob h
  refine v_iald (pc := 31) e6 (show decode (tC tLi_doTable) 31 = .ok (.iaload, 1) by decide +kernel) ?_
  refine v_iload_n (pc := 32) (show decode (tC tLi_doTable) 32 = .ok (.iload_n 3, 1) by decide +kernel) 0 rfl rfl ?_
  obtain ⟨_, e8, h⟩ := ob h
  obtain ⟨r9, S10, e7, h⟩ := ob2 h
  refine v_call (pc := 33) (v := (some (va_rf r9))) (y := yTa_best) (θ' := tTa_best) (rm := rTa_best) (av := [.ref x1, .int v5, .int z0]) (st := []) (cTa_best (l := gl Γ) hl e7) kTa_best iTa_best (iv_virt (y := yTa_best) (θ' := tTa_best) (kd := 4) (As := [.int v5, .int z0]) rfl (ckd_of e8) kTa_best (gT_in 1116 (by decide +kernel) rfl) nTa_best lTa_best mTa_best rfl (show decode (tC tLi_doTable) 33 = .ok (.invokevirtual 193, 3) by decide +kernel)) ⟨by rw [hR]; decide, by rw [hR]; decide, by rw [hR]; decide, by rw [hR]; decide⟩ (Nat.le_of_ble_eq_true rfl) ?_
  refine v_astoreq (pc := 36) (x := r9) [(4, va_rf r9), (3, .int z0), (0, .ref x0), (1, .ref x1), (2, .ref x2)] (show decode (tC tLi_doTable) 36 = .ok (.astore 4, 2) by decide +kernel) (by decide) rfl ?_
  refine v_aloadq (pc := 38) (show decode (tC tLi_doTable) 38 = .ok (.aload 4, 2) by decide +kernel) 0 rfl ?_
  refine v_ifnonnull (pc := 40) 50 (show decode (tC tLi_doTable) 40 = .ok (.ifnonnull 10, 3) by decide +kernel) (by decide) (fun a11 c => ?_) (fun c => ?_)
  · subst c
    dsimp only [oM] at h
    refine v_aload (pc := 50) (show decode (tC tLi_doTable) 50 = .ok (.aload 4, 2) by decide +kernel) 0 rfl ?_
    obtain ⟨v14, e15, h⟩ := ob h
    refine v_getI (pc := 52) oF_Li_200 (by decide) e15 (show decode (tC tLi_doTable) 52 = .ok (.getfield 200, 3) by decide +kernel) ?_
    refine v_sub [(0, .ref x0), (2, .ref x2), (4, va_rf (some a11))] [2, 4, 0] rfl ?_
    exact wLi_doTable_55 hR hl  x0 x2 (some a11) v14 S10 h
  · subst c
    dsimp only [oM] at h
    refine v_aload_n (pc := 43) (show decode (tC tLi_doTable) 43 = .ok (.aload_n 1, 1) by decide +kernel) 3 rfl rfl ?_
    obtain ⟨v12, e13, h⟩ := ob h
    refine v_getI (pc := 44) oF_Li_197 (by decide) e13 (show decode (tC tLi_doTable) 44 = .ok (.getfield 197, 3) by decide +kernel) ?_
    refine v_goto (pc := 47) 55 (show decode (tC tLi_doTable) 47 = .ok (.goto 8, 3) by decide +kernel) (by decide) ?_
    refine v_sub [(0, .ref x0), (2, .ref x2), (4, va_rf none)] [2, 4, 0] rfl ?_
    exact wLi_doTable_55 hR hl  x0 x2 none v12 S10 h
def fLi_doTable (x0 : Nat) (x1 : Nat) (x2 : Nat) (S : Sx) : Option (Sx) :=
    (gI S 4 5 x1).bind fun v1 =>
    if v1 = (-1) then
    (fLi_doTable_21  x0 x1 x2 0 S)
    else
    ((gX S 11 0 x2).bind fun v3 =>
    (gI S 4 5 x1).bind fun v5 =>
    (aI S v3 v5).bind fun v7 =>
    fLi_doTable_21  x0 x1 x2 v7 S)
set_option maxRecDepth 100000 in
set_option maxHeartbeats 4000000 in
theorem wLi_doTable {Γ : vG} (hR : gR Γ = rLi_doTable) (hl : (gl Γ).flags = pinnedFlags ++ [noTraceFlag]) (x0 : Nat) (x1 : Nat) (x2 : Nat) (S : Sx) {X : Sx} (h : fLi_doTable x0 x1 x2 S = some X) : vV Γ tLi_doTable (mQ Γ 0 0 0 none X) S 0 0 0 [(0, .ref x0), (1, .ref x1), (2, .ref x2)] [] := by
  unfold fLi_doTable at h
  refine v_aload_n (pc := 0) (show decode (tC tLi_doTable) 0 = .ok (.aload_n 1, 1) by decide +kernel) 1 rfl rfl ?_
  obtain ⟨v1, e2, h⟩ := ob h
  refine v_getI (pc := 1) oF_Li_187 (by decide) e2 (show decode (tC tLi_doTable) 1 = .ok (.getfield 187, 3) by decide +kernel) ?_
  refine v_iconst (pc := 4) (v := (-1)) (show decode (tC tLi_doTable) 4 = .ok (.iconst (-1), 1) by decide +kernel) (by decide) ?_
  refine v_icmp_ne (pc := 5) 12 (show decode (tC tLi_doTable) 5 = .ok (.if_icmp .ne 7, 3) by decide +kernel) (by decide) (fun c => ?_) (fun c => ?_)
  · replace h := ite_f c h
    refine v_aload_n (pc := 12) (show decode (tC tLi_doTable) 12 = .ok (.aload_n 2, 1) by decide +kernel) 2 rfl rfl ?_
    obtain ⟨v3, e4, h⟩ := ob h
    refine v_getX (pc := 13) oF_Li_174 e4 (show decode (tC tLi_doTable) 13 = .ok (.getfield 174, 3) by decide +kernel) ?_
    refine v_aload_n (pc := 16) (show decode (tC tLi_doTable) 16 = .ok (.aload_n 1, 1) by decide +kernel) 1 rfl rfl ?_
    obtain ⟨v5, e6, h⟩ := ob h
    refine v_getI (pc := 17) oF_Li_187 (by decide) e6 (show decode (tC tLi_doTable) 17 = .ok (.getfield 187, 3) by decide +kernel) ?_
    obtain ⟨v7, e8, h⟩ := ob h
    refine v_iald (pc := 20) e8 (show decode (tC tLi_doTable) 20 = .ok (.iaload, 1) by decide +kernel) ?_
    exact wLi_doTable_21 hR hl  x0 x1 x2 v7 S h
  · replace h := ite_t c h
    refine v_iconst (pc := 8) (v := 0) (show decode (tC tLi_doTable) 8 = .ok (.iconst 0, 1) by decide +kernel) (by decide) ?_
    refine v_goto (pc := 9) 21 (show decode (tC tLi_doTable) 9 = .ok (.goto 12, 3) by decide +kernel) (by decide) ?_
    exact wLi_doTable_21 hR hl  x0 x1 x2 0 S h
theorem cLi_doTable {l : Launch} (hl : l.flags = pinnedFlags ++ [noTraceFlag]) {D : va_G} {dA : Nat → ClassId} {B : Nat} {x0 : Nat} {x1 : Nat} {x2 : Nat} {S : Sx} {X : Sx} (h : fLi_doTable x0 x1 x2 S = some X) : Mx l yLi_doTable tLi_doTable rLi_doTable 0 0 D dA B S [.ref x0, .ref x1, .ref x2] 0 none X :=
  mx_of hl (by decide) rfl rfl (Nat.le_of_ble_eq_true rfl) (fun Γ e1 e2 e3 e4 e5 => by subst e1; subst e3; subst e4; subst e5; exact wLi_doTable e2 hl x0 x1 x2 S h)
/-! MatchPipe$Line.doStep(LMatchPipe$Step;LMatchPipe$Header;)V -/
def yLi_doStep : MethodName := ⟨"MatchPipe$Line", "doStep", "(LMatchPipe$Step;LMatchPipe$Header;)V"⟩
def tLi_doStep : tM := (prog_7_method_14_code, "MatchPipe$Line", 3, "doStep", none, [])
def rLi_doStep : Room := { frames := 4, cells := 0, slots := 0, locals := 93 }
theorem kLi_doStep : cOf yLi_doStep tLi_doStep ∈ gT := gT_in 1110 (by decide +kernel) rfl
theorem iLi_doStep : Cond.initialized yLi_doStep.cls ∈ gT := gT_in 56 (by decide +kernel) rfl
theorem mLi_doStep : okM yLi_doStep 2 := ⟨by decide, by decide, by unfold nPar; decide +kernel⟩
theorem nLi_doStep : Cond.instanceMethod yLi_doStep ∈ gT := gT_in 1109 (by decide +kernel) rfl
theorem lLi_doStep : Cond.selects "MatchPipe$Line" yLi_doStep yLi_doStep ∈ gT := gT_in 19 (by decide +kernel) rfl
def fLi_doStep (x0 : Nat) (x1 : Nat) (x2 : Nat) (S : Sx) : Option (Sx) :=
    (ckd S x1 6).bind fun _ =>
    bd2 (fSp_isTest x1 S) fun r3 S4 =>
    if r3 = 0 then
    ((gX S4 8 0 x0).bind fun v19 =>
    (gX S4 1 3 v19).bind fun v21 =>
    (gI S4 6 0 x1).bind fun v23 =>
    (aX S4 4 v21 v23).bind fun v25 =>
    (ckd S4 x0 8).bind fun _ =>
    (fLi_doTable x0 v25 x2 S4).bind fun S29 =>
    some S29)
    else
    ((gX S4 11 0 x2).bind fun v5 =>
    (gI S4 6 1 x1).bind fun v7 =>
    (aI S4 v5 v7).bind fun v9 =>
    (ckd S4 x1 6).bind fun _ =>
    bd2 (fSp_isSo x1 v9 S4) fun r13 S14 =>
    if r13 = 0 then
    ((gI S14 6 4 x1).bind fun v15 =>
    (pI S14 11 5 x2 v15).bind fun S17 =>
    some S17)
    else
    (some S14))
set_option maxRecDepth 100000 in
set_option maxHeartbeats 4000000 in
theorem wLi_doStep {Γ : vG} (hR : gR Γ = rLi_doStep) (hl : (gl Γ).flags = pinnedFlags ++ [noTraceFlag]) (x0 : Nat) (x1 : Nat) (x2 : Nat) (S : Sx) {X : Sx} (h : fLi_doStep x0 x1 x2 S = some X) : vV Γ tLi_doStep (mQ Γ 0 0 0 none X) S 0 0 0 [(0, .ref x0), (1, .ref x1), (2, .ref x2)] [] := by
  unfold fLi_doStep at h
  refine v_aload_n (pc := 0) (show decode (tC tLi_doStep) 0 = .ok (.aload_n 1, 1) by decide +kernel) 1 rfl rfl ?_
  obtain ⟨_, e2, h⟩ := ob h
  obtain ⟨r3, S4, e1, h⟩ := ob2 h
  refine v_call (pc := 1) (v := (some (.int r3))) (y := ySp_isTest) (θ' := tSp_isTest) (rm := rSp_isTest) (av := [.ref x1]) (st := []) (cSp_isTest (l := gl Γ) hl e1) kSp_isTest iSp_isTest (iv_virt (y := ySp_isTest) (θ' := tSp_isTest) (kd := 6) (As := []) rfl (ckd_of e2) kSp_isTest (gT_in 1111 (by decide +kernel) rfl) nSp_isTest lSp_isTest mSp_isTest rfl (show decode (tC tLi_doStep) 1 = .ok (.invokevirtual 164, 3) by decide +kernel)) ⟨by rw [hR]; decide, by rw [hR]; decide, by rw [hR]; decide, by rw [hR]; decide⟩ (Nat.le_of_ble_eq_true rfl) ?_
  refine v_if_ne (pc := 4) 27 (show decode (tC tLi_doStep) 4 = .ok (.ifCond .ne 23, 3) by decide +kernel) (by decide) (fun c => ?_) (fun c => ?_)
  · replace h := ite_f c h
    refine v_aload_n (pc := 27) (show decode (tC tLi_doStep) 27 = .ok (.aload_n 1, 1) by decide +kernel) 1 rfl rfl ?_
    refine v_aload_n (pc := 28) (show decode (tC tLi_doStep) 28 = .ok (.aload_n 2, 1) by decide +kernel) 2 rfl rfl ?_
    obtain ⟨v5, e6, h⟩ := ob h
    refine v_getX (pc := 29) oF_Li_174 e6 (show decode (tC tLi_doStep) 29 = .ok (.getfield 174, 3) by decide +kernel) ?_
    refine v_aload_n (pc := 32) (show decode (tC tLi_doStep) 32 = .ok (.aload_n 1, 1) by decide +kernel) 1 rfl rfl ?_
    obtain ⟨v7, e8, h⟩ := ob h
    refine v_getI (pc := 33) oF_Li_177 (by decide) e8 (show decode (tC tLi_doStep) 33 = .ok (.getfield 177, 3) by decide +kernel) ?_
    obtain ⟨v9, e10, h⟩ := ob h
    refine v_iald (pc := 36) e10 (show decode (tC tLi_doStep) 36 = .ok (.iaload, 1) by decide +kernel) ?_
    obtain ⟨_, e12, h⟩ := ob h
    obtain ⟨r13, S14, e11, h⟩ := ob2 h
    refine v_call (pc := 37) (v := (some (.int r13))) (y := ySp_isSo) (θ' := tSp_isSo) (rm := rSp_isSo) (av := [.ref x1, .int v9]) (st := []) (cSp_isSo (l := gl Γ) hl e11) kSp_isSo iSp_isSo (iv_virt (y := ySp_isSo) (θ' := tSp_isSo) (kd := 6) (As := [.int v9]) rfl (ckd_of e12) kSp_isSo (gT_in 1149 (by decide +kernel) rfl) nSp_isSo lSp_isSo mSp_isSo rfl (show decode (tC tLi_doStep) 37 = .ok (.invokevirtual 180, 3) by decide +kernel)) ⟨by rw [hR]; decide, by rw [hR]; decide, by rw [hR]; decide, by rw [hR]; decide⟩ (Nat.le_of_ble_eq_true rfl) ?_
    refine v_if_ne (pc := 40) 51 (show decode (tC tLi_doStep) 40 = .ok (.ifCond .ne 11, 3) by decide +kernel) (by decide) (fun c => ?_) (fun c => ?_)
    · replace h := ite_f c h
      obtain rfl := Option.some.inj h
      refine v_wide (ce2 := 0) (sl2 := 0) (by decide) (by decide) ?_
      exact v_vret (pc := 51) rfl (show decode (tC tLi_doStep) 51 = .ok (.return_, 1) by decide +kernel)
    · replace h := ite_t c h
      refine v_aload_n (pc := 43) (show decode (tC tLi_doStep) 43 = .ok (.aload_n 2, 1) by decide +kernel) 2 rfl rfl ?_
      refine v_aload_n (pc := 44) (show decode (tC tLi_doStep) 44 = .ok (.aload_n 1, 1) by decide +kernel) 1 rfl rfl ?_
      obtain ⟨v15, e16, h⟩ := ob h
      refine v_getI (pc := 45) oF_Li_184 (by decide) e16 (show decode (tC tLi_doStep) 45 = .ok (.getfield 184, 3) by decide +kernel) ?_
      obtain ⟨S17, e18, h⟩ := ob h
      refine v_putI (pc := 48) oF_Li_136 (fin_ok (kd := 11) (k := 5) (by decide +kernel)) e18 (show decode (tC tLi_doStep) 48 = .ok (.putfield 136, 3) by decide +kernel) ?_
      obtain rfl := Option.some.inj h
      refine v_wide (ce2 := 0) (sl2 := 0) (by decide) (by decide) ?_
      exact v_vret (pc := 51) rfl (show decode (tC tLi_doStep) 51 = .ok (.return_, 1) by decide +kernel)
  · replace h := ite_t c h
    refine v_aload_n (pc := 7) (show decode (tC tLi_doStep) 7 = .ok (.aload_n 0, 1) by decide +kernel) 0 rfl rfl ?_
    refine v_aload_n (pc := 8) (show decode (tC tLi_doStep) 8 = .ok (.aload_n 0, 1) by decide +kernel) 0 rfl rfl ?_
    obtain ⟨v19, e20, h⟩ := ob h
    refine v_getX (pc := 9) oF_Li_12 e20 (show decode (tC tLi_doStep) 9 = .ok (.getfield 12, 3) by decide +kernel) ?_
    obtain ⟨v21, e22, h⟩ := ob h
    refine v_getX (pc := 12) oF_Li_147 e22 (show decode (tC tLi_doStep) 12 = .ok (.getfield 147, 3) by decide +kernel) ?_
    refine v_aload_n (pc := 15) (show decode (tC tLi_doStep) 15 = .ok (.aload_n 1, 1) by decide +kernel) 1 rfl rfl ?_
    obtain ⟨v23, e24, h⟩ := ob h
    refine v_getI (pc := 16) oF_Li_169 (by decide) e24 (show decode (tC tLi_doStep) 16 = .ok (.getfield 169, 3) by decide +kernel) ?_
    obtain ⟨v25, e26, h⟩ := ob h
    refine v_aald (pc := 19) (kd := 4) rfl e26 (show decode (tC tLi_doStep) 19 = .ok (.aaload, 1) by decide +kernel) ?_
    refine v_aload_n (pc := 20) (show decode (tC tLi_doStep) 20 = .ok (.aload_n 2, 1) by decide +kernel) 2 rfl rfl ?_
    obtain ⟨_, e28, h⟩ := ob h
    obtain ⟨S29, e27, h⟩ := ob h
    refine v_call (pc := 21) (v := none) (y := yLi_doTable) (θ' := tLi_doTable) (rm := rLi_doTable) (av := [.ref x0, .ref v25, .ref x2]) (st := []) (cLi_doTable (l := gl Γ) hl e27) kLi_doTable iLi_doTable (iv_virt (y := yLi_doTable) (θ' := tLi_doTable) (kd := 8) (As := [.ref v25, .ref x2]) rfl (ckd_of e28) kLi_doTable (gT_in 1112 (by decide +kernel) rfl) nLi_doTable lLi_doTable mLi_doTable rfl (show decode (tC tLi_doStep) 21 = .ok (.invokevirtual 170, 3) by decide +kernel)) ⟨by rw [hR]; decide, by rw [hR]; decide, by rw [hR]; decide, by rw [hR]; decide⟩ (Nat.le_of_ble_eq_true rfl) ?_
    refine v_goto (pc := 24) 51 (show decode (tC tLi_doStep) 24 = .ok (.goto 27, 3) by decide +kernel) (by decide) ?_
    obtain rfl := Option.some.inj h
    refine v_wide (ce2 := 0) (sl2 := 0) (by decide) (by decide) ?_
    exact v_vret (pc := 51) rfl (show decode (tC tLi_doStep) 51 = .ok (.return_, 1) by decide +kernel)
theorem cLi_doStep {l : Launch} (hl : l.flags = pinnedFlags ++ [noTraceFlag]) {D : va_G} {dA : Nat → ClassId} {B : Nat} {x0 : Nat} {x1 : Nat} {x2 : Nat} {S : Sx} {X : Sx} (h : fLi_doStep x0 x1 x2 S = some X) : Mx l yLi_doStep tLi_doStep rLi_doStep 0 0 D dA B S [.ref x0, .ref x1, .ref x2] 0 none X :=
  mx_of hl (by decide) rfl rfl (Nat.le_of_ble_eq_true rfl) (fun Γ e1 e2 e3 e4 e5 => by subst e1; subst e3; subst e4; subst e5; exact wLi_doStep e2 hl x0 x1 x2 S h)
/-! MatchPipe$Line.workIn(II)V -/
def yLi_workIn : MethodName := ⟨"MatchPipe$Line", "workIn", "(II)V"⟩
def tLi_workIn : tM := (prog_7_method_12_code, "MatchPipe$Line", 6, "workIn", none, [])
def rLi_workIn : Room := { frames := 5, cells := 0, slots := 0, locals := 115 }
theorem kLi_workIn : cOf yLi_workIn tLi_workIn ∈ gT := gT_in 1077 (by decide +kernel) rfl
theorem iLi_workIn : Cond.initialized yLi_workIn.cls ∈ gT := gT_in 56 (by decide +kernel) rfl
theorem mLi_workIn : okM yLi_workIn 2 := ⟨by decide, by decide, by unfold nPar; decide +kernel⟩
theorem nLi_workIn : Cond.instanceMethod yLi_workIn ∈ gT := gT_in 1076 (by decide +kernel) rfl
theorem lLi_workIn : Cond.selects "MatchPipe$Line" yLi_workIn yLi_workIn ∈ gT := gT_in 16 (by decide +kernel) rfl
def fLi_workIn_62  : Nat → Nat → Int32 → Nat → Int32 → Sx → Option (Sx)
  | 0, _, _, _, _, _ => none
  | n + 1, x0, x1, x4, x5, S =>
    (gX S 8 1 x0).bind fun v1 =>
    (gX S 7 1 v1).bind fun v3 =>
    (aI S v3 (x1 + 1)).bind fun v5 =>
    if v5 ≤ x5 then
    (some S)
    else
    ((gI S 11 5 x4).bind fun v7 =>
    if x5 < v7 then
    (fLi_workIn_62 n x0 x1 x4 (x5 + 1) S)
    else
    ((gX S 8 0 x0).bind fun v9 =>
    (gX S 1 4 v9).bind fun v11 =>
    (aX S 6 v11 x5).bind fun v13 =>
    (ckd S x0 8).bind fun _ =>
    (fLi_doStep x0 v13 x4 S).bind fun S17 =>
    fLi_workIn_62 n x0 x1 x4 (x5 + 1) S17))
set_option maxRecDepth 100000 in
set_option maxHeartbeats 4000000 in
theorem wLi_workIn_62 {Γ : vG} (hR : gR Γ = rLi_workIn) (hl : (gl Γ).flags = pinnedFlags ++ [noTraceFlag]) {X : Sx}  : ∀ (n : Nat) (x0 : Nat) (x1 : Int32) (x4 : Nat) (x5 : Int32) (S : Sx), fLi_workIn_62  n x0 x1 x4 x5 S = some X → vV Γ tLi_workIn (mQ Γ 0 0 0 none X) S 0 0 62 [(0, .ref x0), (1, .int x1), (4, .ref x4), (5, .int x5)] [] := by
  intro n
  induction n with
  | zero => intro x0 x1 x4 x5 S h; rw [fLi_workIn_62] at h; cases h
  | succ n ih =>
    intro x0 x1 x4 x5 S h
    rw [fLi_workIn_62] at h
    refine v_iload (pc := 62) (show decode (tC tLi_workIn) 62 = .ok (.iload 5, 2) by decide +kernel) 3 rfl ?_
    refine v_aload_n (pc := 64) (show decode (tC tLi_workIn) 64 = .ok (.aload_n 0, 1) by decide +kernel) 0 rfl rfl ?_
    obtain ⟨v1, e2, h⟩ := ob h
    refine v_getX (pc := 65) oF_Li_21 e2 (show decode (tC tLi_workIn) 65 = .ok (.getfield 21, 3) by decide +kernel) ?_
    obtain ⟨v3, e4, h⟩ := ob h
    refine v_getX (pc := 68) oF_Li_133 e4 (show decode (tC tLi_workIn) 68 = .ok (.getfield 133, 3) by decide +kernel) ?_
    refine v_iload_n (pc := 71) (show decode (tC tLi_workIn) 71 = .ok (.iload_n 1, 1) by decide +kernel) 1 rfl rfl ?_
    refine v_iconst (pc := 72) (v := 1) (show decode (tC tLi_workIn) 72 = .ok (.iconst 1, 1) by decide +kernel) (by decide) ?_
    refine v_iadd (pc := 73) (show decode (tC tLi_workIn) 73 = .ok (.iadd, 1) by decide +kernel) ?_
    obtain ⟨v5, e6, h⟩ := ob h
    refine v_iald (pc := 74) e6 (show decode (tC tLi_workIn) 74 = .ok (.iaload, 1) by decide +kernel) ?_
    refine v_icmp_ge (pc := 75) 110 (show decode (tC tLi_workIn) 75 = .ok (.if_icmp .ge 35, 3) by decide +kernel) (by decide) (fun c => ?_) (fun c => ?_)
    · replace h := ite_t c h
      obtain rfl := Option.some.inj h
      refine v_wide (ce2 := 0) (sl2 := 0) (by decide) (by decide) ?_
      exact v_vret (pc := 110) rfl (show decode (tC tLi_workIn) 110 = .ok (.return_, 1) by decide +kernel)
    · replace h := ite_f c h
      refine v_iload (pc := 78) (show decode (tC tLi_workIn) 78 = .ok (.iload 5, 2) by decide +kernel) 3 rfl ?_
      refine v_aload (pc := 80) (show decode (tC tLi_workIn) 80 = .ok (.aload 4, 2) by decide +kernel) 2 rfl ?_
      obtain ⟨v7, e8, h⟩ := ob h
      refine v_getI (pc := 82) oF_Li_136 (by decide) e8 (show decode (tC tLi_workIn) 82 = .ok (.getfield 136, 3) by decide +kernel) ?_
      refine v_icmp_lt (pc := 85) 104 (show decode (tC tLi_workIn) 85 = .ok (.if_icmp .lt 19, 3) by decide +kernel) (by decide) (fun c => ?_) (fun c => ?_)
      · replace h := ite_t c h
        refine v_iinc (pc := 104) (j := 3) [(5, .int (x5 + 1)), (0, .ref x0), (1, .int x1), (4, .ref x4)] (show decode (tC tLi_workIn) 104 = .ok (.iinc 5 1, 3) by decide +kernel) rfl rfl (by decide) rfl ?_
        refine v_goto (pc := 107) 62 (show decode (tC tLi_workIn) 107 = .ok (.goto (-45), 3) by decide +kernel) (by decide) ?_
        refine v_sub [(0, .ref x0), (1, .int x1), (4, .ref x4), (5, .int (x5 + 1))] [1, 2, 3, 0] rfl ?_
        exact ih x0 x1 x4 (x5 + 1) S h
      · replace h := ite_f c h
        refine v_aload_n (pc := 88) (show decode (tC tLi_workIn) 88 = .ok (.aload_n 0, 1) by decide +kernel) 0 rfl rfl ?_
        refine v_aload_n (pc := 89) (show decode (tC tLi_workIn) 89 = .ok (.aload_n 0, 1) by decide +kernel) 0 rfl rfl ?_
        obtain ⟨v9, e10, h⟩ := ob h
        refine v_getX (pc := 90) oF_Li_12 e10 (show decode (tC tLi_workIn) 90 = .ok (.getfield 12, 3) by decide +kernel) ?_
        obtain ⟨v11, e12, h⟩ := ob h
        refine v_getX (pc := 93) oF_Li_139 e12 (show decode (tC tLi_workIn) 93 = .ok (.getfield 139, 3) by decide +kernel) ?_
        refine v_iload (pc := 96) (show decode (tC tLi_workIn) 96 = .ok (.iload 5, 2) by decide +kernel) 3 rfl ?_
        obtain ⟨v13, e14, h⟩ := ob h
        refine v_aald (pc := 98) (kd := 6) rfl e14 (show decode (tC tLi_workIn) 98 = .ok (.aaload, 1) by decide +kernel) ?_
        refine v_aload (pc := 99) (show decode (tC tLi_workIn) 99 = .ok (.aload 4, 2) by decide +kernel) 2 rfl ?_
        obtain ⟨_, e16, h⟩ := ob h
        obtain ⟨S17, e15, h⟩ := ob h
        refine v_call (pc := 101) (v := none) (y := yLi_doStep) (θ' := tLi_doStep) (rm := rLi_doStep) (av := [.ref x0, .ref v13, .ref x4]) (st := []) (cLi_doStep (l := gl Γ) hl e15) kLi_doStep iLi_doStep (iv_virt (y := yLi_doStep) (θ' := tLi_doStep) (kd := 8) (As := [.ref v13, .ref x4]) rfl (ckd_of e16) kLi_doStep (gT_in 1107 (by decide +kernel) rfl) nLi_doStep lLi_doStep mLi_doStep rfl (show decode (tC tLi_workIn) 101 = .ok (.invokevirtual 143, 3) by decide +kernel)) ⟨by rw [hR]; decide, by rw [hR]; decide, by rw [hR]; decide, by rw [hR]; decide⟩ (Nat.le_of_ble_eq_true rfl) ?_
        refine v_iinc (pc := 104) (j := 3) [(5, .int (x5 + 1)), (0, .ref x0), (1, .int x1), (4, .ref x4)] (show decode (tC tLi_workIn) 104 = .ok (.iinc 5 1, 3) by decide +kernel) rfl rfl (by decide) rfl ?_
        refine v_goto (pc := 107) 62 (show decode (tC tLi_workIn) 107 = .ok (.goto (-45), 3) by decide +kernel) (by decide) ?_
        refine v_sub [(0, .ref x0), (1, .int x1), (4, .ref x4), (5, .int (x5 + 1))] [1, 2, 3, 0] rfl ?_
        exact ih x0 x1 x4 (x5 + 1) S17 h
def fLi_workIn (x0 : Nat) (x1 : Int32) (x2 : Int32) (S : Sx) : Option (Sx) :=
    (ckd S x0 8).bind fun _ =>
    bd2 (fLi_placeOf x0 x2 S) fun r3 S4 =>
    r3.bind fun a5 =>
    (gI S4 9 3 a5).bind fun v7 =>
    if v7 = 0 then
    ((gI S4 9 5 a5).bind fun v9 =>
    if v9 = 2 then
    (some S4)
    else
    ((ckd S4 x0 8).bind fun _ =>
    bd2 (fLi_headerOf x0 x2 S4) fun r13 S14 =>
    r13.bind fun a15 =>
    (gX S14 8 1 x0).bind fun v17 =>
    (gX S14 7 1 v17).bind fun v19 =>
    (aI S14 v19 x1).bind fun v21 =>
    fLi_workIn_62  fuel x0 x1 a15 v21 S14))
    else
    ((gX S4 8 1 x0).bind fun v23 =>
    (gX S4 7 2 v23).bind fun v25 =>
    (gI S4 9 4 a5).bind fun v27 =>
    (aI S4 v25 v27).bind fun v29 =>
    if v29 = x1 then
    ((ckd S4 x0 8).bind fun _ =>
    (fLi_changeTable x0 a5 S4).bind fun S33 =>
    some S33)
    else
    (some S4))
set_option maxRecDepth 100000 in
set_option maxHeartbeats 4000000 in
theorem wLi_workIn {Γ : vG} (hR : gR Γ = rLi_workIn) (hl : (gl Γ).flags = pinnedFlags ++ [noTraceFlag]) (x0 : Nat) (x1 : Int32) (x2 : Int32) (S : Sx) {X : Sx} (h : fLi_workIn x0 x1 x2 S = some X) : vV Γ tLi_workIn (mQ Γ 0 0 0 none X) S 0 0 0 [(0, .ref x0), (1, .int x1), (2, .int x2)] [] := by
  unfold fLi_workIn at h
  refine v_aload_n (pc := 0) (show decode (tC tLi_workIn) 0 = .ok (.aload_n 0, 1) by decide +kernel) 0 rfl rfl ?_
  refine v_iload_n (pc := 1) (show decode (tC tLi_workIn) 1 = .ok (.iload_n 2, 1) by decide +kernel) 2 rfl rfl ?_
  obtain ⟨_, e2, h⟩ := ob h
  obtain ⟨r3, S4, e1, h⟩ := ob2 h
  have h9 := ob h
  clear h
  obtain ⟨a5, e6, h⟩ := h9
  subst e6
  refine v_call (pc := 2) (v := (some (.ref a5))) (y := yLi_placeOf) (θ' := tLi_placeOf) (rm := rLi_placeOf) (av := [.ref x0, .int x2]) (st := []) (cLi_placeOf (l := gl Γ) hl e1) kLi_placeOf iLi_placeOf (iv_virt (y := yLi_placeOf) (θ' := tLi_placeOf) (kd := 8) (As := [.int x2]) rfl (ckd_of e2) kLi_placeOf (gT_in 988 (by decide +kernel) rfl) nLi_placeOf lLi_placeOf mLi_placeOf rfl (show decode (tC tLi_workIn) 2 = .ok (.invokevirtual 65, 3) by decide +kernel)) ⟨by rw [hR]; decide, by rw [hR]; decide, by rw [hR]; decide, by rw [hR]; decide⟩ (Nat.le_of_ble_eq_true rfl) ?_
  refine v_astore_n (pc := 5) [(3, .ref a5), (0, .ref x0), (1, .int x1), (2, .int x2)] (show decode (tC tLi_workIn) 5 = .ok (.astore_n 3, 1) by decide +kernel) rfl (by decide) rfl ?_
  refine v_aload_n (pc := 6) (show decode (tC tLi_workIn) 6 = .ok (.aload_n 3, 1) by decide +kernel) 0 rfl rfl ?_
  obtain ⟨v7, e8, h⟩ := ob h
  refine v_getI (pc := 7) oF_Li_91 (by decide) e8 (show decode (tC tLi_workIn) 7 = .ok (.getfield 91, 3) by decide +kernel) ?_
  refine v_if_eq (pc := 10) 35 (show decode (tC tLi_workIn) 10 = .ok (.ifCond .eq 25, 3) by decide +kernel) (by decide) (fun c => ?_) (fun c => ?_)
  · replace h := ite_t c h
    refine v_aload_n (pc := 35) (show decode (tC tLi_workIn) 35 = .ok (.aload_n 3, 1) by decide +kernel) 0 rfl rfl ?_
    obtain ⟨v9, e10, h⟩ := ob h
    refine v_getI (pc := 36) oF_Li_101 (by decide) e10 (show decode (tC tLi_workIn) 36 = .ok (.getfield 101, 3) by decide +kernel) ?_
    refine v_iconst (pc := 39) (v := 2) (show decode (tC tLi_workIn) 39 = .ok (.iconst 2, 1) by decide +kernel) (by decide) ?_
    refine v_icmp_ne (pc := 40) 44 (show decode (tC tLi_workIn) 40 = .ok (.if_icmp .ne 4, 3) by decide +kernel) (by decide) (fun c => ?_) (fun c => ?_)
    · replace h := ite_f c h
      refine v_aload_n (pc := 44) (show decode (tC tLi_workIn) 44 = .ok (.aload_n 0, 1) by decide +kernel) 1 rfl rfl ?_
      refine v_iload_n (pc := 45) (show decode (tC tLi_workIn) 45 = .ok (.iload_n 2, 1) by decide +kernel) 3 rfl rfl ?_
      obtain ⟨_, e12, h⟩ := ob h
      obtain ⟨r13, S14, e11, h⟩ := ob2 h
      have h9 := ob h
      clear h
      obtain ⟨a15, e16, h⟩ := h9
      subst e16
      refine v_call (pc := 46) (v := (some (.ref a15))) (y := yLi_headerOf) (θ' := tLi_headerOf) (rm := rLi_headerOf) (av := [.ref x0, .int x2]) (st := []) (cLi_headerOf (l := gl Γ) hl e11) kLi_headerOf iLi_headerOf (iv_virt (y := yLi_headerOf) (θ' := tLi_headerOf) (kd := 8) (As := [.int x2]) rfl (ckd_of e12) kLi_headerOf (gT_in 1041 (by decide +kernel) rfl) nLi_headerOf lLi_headerOf mLi_headerOf rfl (show decode (tC tLi_workIn) 46 = .ok (.invokevirtual 87, 3) by decide +kernel)) ⟨by rw [hR]; decide, by rw [hR]; decide, by rw [hR]; decide, by rw [hR]; decide⟩ (Nat.le_of_ble_eq_true rfl) ?_
      refine v_astore (pc := 49) [(4, .ref a15), (3, .ref a5), (0, .ref x0), (1, .int x1), (2, .int x2)] (show decode (tC tLi_workIn) 49 = .ok (.astore 4, 2) by decide +kernel) (by decide) rfl ?_
      refine v_aload_n (pc := 51) (show decode (tC tLi_workIn) 51 = .ok (.aload_n 0, 1) by decide +kernel) 2 rfl rfl ?_
      obtain ⟨v17, e18, h⟩ := ob h
      refine v_getX (pc := 52) oF_Li_21 e18 (show decode (tC tLi_workIn) 52 = .ok (.getfield 21, 3) by decide +kernel) ?_
      obtain ⟨v19, e20, h⟩ := ob h
      refine v_getX (pc := 55) oF_Li_133 e20 (show decode (tC tLi_workIn) 55 = .ok (.getfield 133, 3) by decide +kernel) ?_
      refine v_iload_n (pc := 58) (show decode (tC tLi_workIn) 58 = .ok (.iload_n 1, 1) by decide +kernel) 3 rfl rfl ?_
      obtain ⟨v21, e22, h⟩ := ob h
      refine v_iald (pc := 59) e22 (show decode (tC tLi_workIn) 59 = .ok (.iaload, 1) by decide +kernel) ?_
      refine v_istore (pc := 60) [(5, .int v21), (4, .ref a15), (3, .ref a5), (0, .ref x0), (1, .int x1), (2, .int x2)] (show decode (tC tLi_workIn) 60 = .ok (.istore 5, 2) by decide +kernel) (by decide) rfl ?_
      refine v_sub [(0, .ref x0), (1, .int x1), (4, .ref a15), (5, .int v21)] [3, 4, 1, 0] rfl ?_
      exact wLi_workIn_62 hR hl  fuel x0 x1 a15 v21 S14 h
    · replace h := ite_t c h
      obtain rfl := Option.some.inj h
      refine v_wide (ce2 := 0) (sl2 := 0) (by decide) (by decide) ?_
      exact v_vret (pc := 43) rfl (show decode (tC tLi_workIn) 43 = .ok (.return_, 1) by decide +kernel)
  · replace h := ite_f c h
    refine v_aload_n (pc := 13) (show decode (tC tLi_workIn) 13 = .ok (.aload_n 0, 1) by decide +kernel) 1 rfl rfl ?_
    obtain ⟨v23, e24, h⟩ := ob h
    refine v_getX (pc := 14) oF_Li_21 e24 (show decode (tC tLi_workIn) 14 = .ok (.getfield 21, 3) by decide +kernel) ?_
    obtain ⟨v25, e26, h⟩ := ob h
    refine v_getX (pc := 17) oF_Li_123 e26 (show decode (tC tLi_workIn) 17 = .ok (.getfield 123, 3) by decide +kernel) ?_
    refine v_aload_n (pc := 20) (show decode (tC tLi_workIn) 20 = .ok (.aload_n 3, 1) by decide +kernel) 0 rfl rfl ?_
    obtain ⟨v27, e28, h⟩ := ob h
    refine v_getI (pc := 21) oF_Li_126 (by decide) e28 (show decode (tC tLi_workIn) 21 = .ok (.getfield 126, 3) by decide +kernel) ?_
    obtain ⟨v29, e30, h⟩ := ob h
    refine v_iald (pc := 24) e30 (show decode (tC tLi_workIn) 24 = .ok (.iaload, 1) by decide +kernel) ?_
    refine v_iload_n (pc := 25) (show decode (tC tLi_workIn) 25 = .ok (.iload_n 1, 1) by decide +kernel) 2 rfl rfl ?_
    refine v_icmp_ne (pc := 26) 34 (show decode (tC tLi_workIn) 26 = .ok (.if_icmp .ne 8, 3) by decide +kernel) (by decide) (fun c => ?_) (fun c => ?_)
    · replace h := ite_f c h
      obtain rfl := Option.some.inj h
      refine v_wide (ce2 := 0) (sl2 := 0) (by decide) (by decide) ?_
      exact v_vret (pc := 34) rfl (show decode (tC tLi_workIn) 34 = .ok (.return_, 1) by decide +kernel)
    · replace h := ite_t c h
      refine v_aload_n (pc := 29) (show decode (tC tLi_workIn) 29 = .ok (.aload_n 0, 1) by decide +kernel) 1 rfl rfl ?_
      refine v_aload_n (pc := 30) (show decode (tC tLi_workIn) 30 = .ok (.aload_n 3, 1) by decide +kernel) 0 rfl rfl ?_
      obtain ⟨_, e32, h⟩ := ob h
      obtain ⟨S33, e31, h⟩ := ob h
      refine v_call (pc := 31) (v := none) (y := yLi_changeTable) (θ' := tLi_changeTable) (rm := rLi_changeTable) (av := [.ref x0, .ref a5]) (st := []) (cLi_changeTable (l := gl Γ) hl e31) kLi_changeTable iLi_changeTable (iv_virt (y := yLi_changeTable) (θ' := tLi_changeTable) (kd := 8) (As := [.ref a5]) rfl (ckd_of e32) kLi_changeTable (gT_in 1078 (by decide +kernel) rfl) nLi_changeTable lLi_changeTable mLi_changeTable rfl (show decode (tC tLi_workIn) 31 = .ok (.invokevirtual 129, 3) by decide +kernel)) ⟨by rw [hR]; decide, by rw [hR]; decide, by rw [hR]; decide, by rw [hR]; decide⟩ (Nat.le_of_ble_eq_true rfl) ?_
      obtain rfl := Option.some.inj h
      refine v_wide (ce2 := 0) (sl2 := 0) (by decide) (by decide) ?_
      exact v_vret (pc := 34) rfl (show decode (tC tLi_workIn) 34 = .ok (.return_, 1) by decide +kernel)
theorem cLi_workIn {l : Launch} (hl : l.flags = pinnedFlags ++ [noTraceFlag]) {D : va_G} {dA : Nat → ClassId} {B : Nat} {x0 : Nat} {x1 : Int32} {x2 : Int32} {S : Sx} {X : Sx} (h : fLi_workIn x0 x1 x2 S = some X) : Mx l yLi_workIn tLi_workIn rLi_workIn 0 0 D dA B S [.ref x0, .int x1, .int x2] 0 none X :=
  mx_of hl (by decide) rfl rfl (Nat.le_of_ble_eq_true rfl) (fun Γ e1 e2 e3 e4 e5 => by subst e1; subst e3; subst e4; subst e5; exact wLi_workIn e2 hl x0 x1 x2 S h)
/-! MatchPipe$Line.goOn()V -/
def yLi_goOn : MethodName := ⟨"MatchPipe$Line", "goOn", "()V"⟩
def tLi_goOn : tM := (prog_7_method_8_code, "MatchPipe$Line", 3, "goOn", none, [])
def rLi_goOn : Room := { frames := 6, cells := 0, slots := 0, locals := 140 }
theorem kLi_goOn : cOf yLi_goOn tLi_goOn ∈ gT := gT_in 1035 (by decide +kernel) rfl
theorem iLi_goOn : Cond.initialized yLi_goOn.cls ∈ gT := gT_in 56 (by decide +kernel) rfl
theorem mLi_goOn : okM yLi_goOn 0 := ⟨by decide, by decide, by unfold nPar; decide +kernel⟩
theorem nLi_goOn : Cond.instanceMethod yLi_goOn ∈ gT := gT_in 1033 (by decide +kernel) rfl
theorem lLi_goOn : Cond.selects "MatchPipe$Line" yLi_goOn yLi_goOn ∈ gT := gT_in 1034 (by decide +kernel) rfl
def fLi_goOn_79  : Nat → Nat → Int32 → Int32 → Sx → Option (Sx)
  | 0, _, _, _, _ => none
  | n + 1, x0, x1, x2, S =>
    if x1 < x2 then
    ((gI S 8 9 x0).bind fun v1 =>
    (pI S 8 9 x0 (v1 + 1)).bind fun S3 =>
    some S3)
    else
    ((gX S 8 4 x0).bind fun v5 =>
    (aI S v5 x2).bind fun v7 =>
    if v7 = (-1) then
    (fLi_goOn_79 n x0 x1 (x2 + 1) S)
    else
    ((gX S 8 4 x0).bind fun v9 =>
    (aI S v9 x2).bind fun v11 =>
    (ckd S x0 8).bind fun _ =>
    (fLi_workIn x0 x2 v11 S).bind fun S15 =>
    fLi_goOn_79 n x0 x1 (x2 + 1) S15))
set_option maxRecDepth 100000 in
set_option maxHeartbeats 4000000 in
theorem wLi_goOn_79 {Γ : vG} (hR : gR Γ = rLi_goOn) (hl : (gl Γ).flags = pinnedFlags ++ [noTraceFlag]) {X : Sx}  : ∀ (n : Nat) (x0 : Nat) (x1 : Int32) (x2 : Int32) (S : Sx), fLi_goOn_79  n x0 x1 x2 S = some X → vV Γ tLi_goOn (mQ Γ 0 0 0 none X) S 0 0 79 [(0, .ref x0), (1, .int x1), (2, .int x2)] [] := by
  intro n
  induction n with
  | zero => intro x0 x1 x2 S h; rw [fLi_goOn_79] at h; cases h
  | succ n ih =>
    intro x0 x1 x2 S h
    rw [fLi_goOn_79] at h
    refine v_iload_n (pc := 79) (show decode (tC tLi_goOn) 79 = .ok (.iload_n 2, 1) by decide +kernel) 2 rfl rfl ?_
    refine v_iload_n (pc := 80) (show decode (tC tLi_goOn) 80 = .ok (.iload_n 1, 1) by decide +kernel) 1 rfl rfl ?_
    refine v_icmp_gt (pc := 81) 111 (show decode (tC tLi_goOn) 81 = .ok (.if_icmp .gt 30, 3) by decide +kernel) (by decide) (fun c => ?_) (fun c => ?_)
    · replace h := ite_t c h
      refine v_aload_n (pc := 111) (show decode (tC tLi_goOn) 111 = .ok (.aload_n 0, 1) by decide +kernel) 0 rfl rfl ?_
      refine v_dup (pc := 112) (show decode (tC tLi_goOn) 112 = .ok (.dup, 1) by decide +kernel) rfl ?_
      obtain ⟨v1, e2, h⟩ := ob h
      refine v_getI (pc := 113) oF_Li_62 (by decide) e2 (show decode (tC tLi_goOn) 113 = .ok (.getfield 62, 3) by decide +kernel) ?_
      refine v_iconst (pc := 116) (v := 1) (show decode (tC tLi_goOn) 116 = .ok (.iconst 1, 1) by decide +kernel) (by decide) ?_
      refine v_iadd (pc := 117) (show decode (tC tLi_goOn) 117 = .ok (.iadd, 1) by decide +kernel) ?_
      obtain ⟨S3, e4, h⟩ := ob h
      refine v_putI (pc := 118) oF_Li_62 (fin_ok (kd := 8) (k := 9) (by decide +kernel)) e4 (show decode (tC tLi_goOn) 118 = .ok (.putfield 62, 3) by decide +kernel) ?_
      obtain rfl := Option.some.inj h
      refine v_wide (ce2 := 0) (sl2 := 0) (by decide) (by decide) ?_
      exact v_vret (pc := 121) rfl (show decode (tC tLi_goOn) 121 = .ok (.return_, 1) by decide +kernel)
    · replace h := ite_f c h
      refine v_aload_n (pc := 84) (show decode (tC tLi_goOn) 84 = .ok (.aload_n 0, 1) by decide +kernel) 0 rfl rfl ?_
      obtain ⟨v5, e6, h⟩ := ob h
      refine v_getX (pc := 85) oF_Li_37 e6 (show decode (tC tLi_goOn) 85 = .ok (.getfield 37, 3) by decide +kernel) ?_
      refine v_iload_n (pc := 88) (show decode (tC tLi_goOn) 88 = .ok (.iload_n 2, 1) by decide +kernel) 2 rfl rfl ?_
      obtain ⟨v7, e8, h⟩ := ob h
      refine v_iald (pc := 89) e8 (show decode (tC tLi_goOn) 89 = .ok (.iaload, 1) by decide +kernel) ?_
      refine v_iconst (pc := 90) (v := (-1)) (show decode (tC tLi_goOn) 90 = .ok (.iconst (-1), 1) by decide +kernel) (by decide) ?_
      refine v_icmp_eq (pc := 91) 105 (show decode (tC tLi_goOn) 91 = .ok (.if_icmp .eq 14, 3) by decide +kernel) (by decide) (fun c => ?_) (fun c => ?_)
      · replace h := ite_t c h
        refine v_iinc (pc := 105) (j := 2) [(2, .int (x2 + 1)), (0, .ref x0), (1, .int x1)] (show decode (tC tLi_goOn) 105 = .ok (.iinc 2 1, 3) by decide +kernel) rfl rfl (by decide) rfl ?_
        refine v_goto (pc := 108) 79 (show decode (tC tLi_goOn) 108 = .ok (.goto (-29), 3) by decide +kernel) (by decide) ?_
        refine v_sub [(0, .ref x0), (1, .int x1), (2, .int (x2 + 1))] [1, 2, 0] rfl ?_
        exact ih x0 x1 (x2 + 1) S h
      · replace h := ite_f c h
        refine v_aload_n (pc := 94) (show decode (tC tLi_goOn) 94 = .ok (.aload_n 0, 1) by decide +kernel) 0 rfl rfl ?_
        refine v_iload_n (pc := 95) (show decode (tC tLi_goOn) 95 = .ok (.iload_n 2, 1) by decide +kernel) 2 rfl rfl ?_
        refine v_aload_n (pc := 96) (show decode (tC tLi_goOn) 96 = .ok (.aload_n 0, 1) by decide +kernel) 0 rfl rfl ?_
        obtain ⟨v9, e10, h⟩ := ob h
        refine v_getX (pc := 97) oF_Li_37 e10 (show decode (tC tLi_goOn) 97 = .ok (.getfield 37, 3) by decide +kernel) ?_
        refine v_iload_n (pc := 100) (show decode (tC tLi_goOn) 100 = .ok (.iload_n 2, 1) by decide +kernel) 2 rfl rfl ?_
        obtain ⟨v11, e12, h⟩ := ob h
        refine v_iald (pc := 101) e12 (show decode (tC tLi_goOn) 101 = .ok (.iaload, 1) by decide +kernel) ?_
        obtain ⟨_, e14, h⟩ := ob h
        obtain ⟨S15, e13, h⟩ := ob h
        refine v_call (pc := 102) (v := none) (y := yLi_workIn) (θ' := tLi_workIn) (rm := rLi_workIn) (av := [.ref x0, .int x2, .int v11]) (st := []) (cLi_workIn (l := gl Γ) hl e13) kLi_workIn iLi_workIn (iv_virt (y := yLi_workIn) (θ' := tLi_workIn) (kd := 8) (As := [.int x2, .int v11]) rfl (ckd_of e14) kLi_workIn (gT_in 1074 (by decide +kernel) rfl) nLi_workIn lLi_workIn mLi_workIn rfl (show decode (tC tLi_goOn) 102 = .ok (.invokevirtual 83, 3) by decide +kernel)) ⟨by rw [hR]; decide, by rw [hR]; decide, by rw [hR]; decide, by rw [hR]; decide⟩ (Nat.le_of_ble_eq_true rfl) ?_
        refine v_iinc (pc := 105) (j := 2) [(2, .int (x2 + 1)), (0, .ref x0), (1, .int x1)] (show decode (tC tLi_goOn) 105 = .ok (.iinc 2 1, 3) by decide +kernel) rfl rfl (by decide) rfl ?_
        refine v_goto (pc := 108) 79 (show decode (tC tLi_goOn) 108 = .ok (.goto (-29), 3) by decide +kernel) (by decide) ?_
        refine v_sub [(0, .ref x0), (1, .int x1), (2, .int (x2 + 1))] [1, 2, 0] rfl ?_
        exact ih x0 x1 (x2 + 1) S15 h
def fLi_goOn_32  : Nat → Nat → Int32 → Int32 → Sx → Option (Sx)
  | 0, _, _, _, _ => none
  | n + 1, x0, x1, x2, S =>
    if x2 ≤ 0 then
    ((gX S 8 4 x0).bind fun v1 =>
    (ckd S x0 8).bind fun _ =>
    bd2 (fLi_inLine x0 S) fun r5 S6 =>
    if r5 ≤ 0 then
    ((qI S6 v1 0 (-1)).bind fun S7 =>
    fLi_goOn_79  fuel x0 x1 0 S7)
    else
    ((ckd S6 x0 8).bind fun _ =>
    bd2 (fLi_enter x0 S6) fun r11 S12 =>
    (qI S12 v1 0 r11).bind fun S13 =>
    fLi_goOn_79  fuel x0 x1 0 S13))
    else
    ((gX S 8 4 x0).bind fun v15 =>
    (gX S 8 4 x0).bind fun v17 =>
    (aI S v17 (x2 - 1)).bind fun v19 =>
    (qI S v15 x2 v19).bind fun S21 =>
    fLi_goOn_32 n x0 x1 (x2 + (-1)) S21)
set_option maxRecDepth 100000 in
set_option maxHeartbeats 4000000 in
theorem wLi_goOn_32 {Γ : vG} (hR : gR Γ = rLi_goOn) (hl : (gl Γ).flags = pinnedFlags ++ [noTraceFlag]) {X : Sx}  : ∀ (n : Nat) (x0 : Nat) (x1 : Int32) (x2 : Int32) (S : Sx), fLi_goOn_32  n x0 x1 x2 S = some X → vV Γ tLi_goOn (mQ Γ 0 0 0 none X) S 0 0 32 [(0, .ref x0), (1, .int x1), (2, .int x2)] [] := by
  intro n
  induction n with
  | zero => intro x0 x1 x2 S h; rw [fLi_goOn_32] at h; cases h
  | succ n ih =>
    intro x0 x1 x2 S h
    rw [fLi_goOn_32] at h
    refine v_iload_n (pc := 32) (show decode (tC tLi_goOn) 32 = .ok (.iload_n 2, 1) by decide +kernel) 2 rfl rfl ?_
    refine v_if_le (pc := 33) 56 (show decode (tC tLi_goOn) 33 = .ok (.ifCond .le 23, 3) by decide +kernel) (by decide) (fun c => ?_) (fun c => ?_)
    · replace h := ite_t c h
      refine v_aload_n (pc := 56) (show decode (tC tLi_goOn) 56 = .ok (.aload_n 0, 1) by decide +kernel) 0 rfl rfl ?_
      obtain ⟨v1, e2, h⟩ := ob h
      refine v_getX (pc := 57) oF_Li_37 e2 (show decode (tC tLi_goOn) 57 = .ok (.getfield 37, 3) by decide +kernel) ?_
      refine v_iconst (pc := 60) (v := 0) (show decode (tC tLi_goOn) 60 = .ok (.iconst 0, 1) by decide +kernel) (by decide) ?_
      refine v_aload_n (pc := 61) (show decode (tC tLi_goOn) 61 = .ok (.aload_n 0, 1) by decide +kernel) 0 rfl rfl ?_
      obtain ⟨_, e4, h⟩ := ob h
      obtain ⟨r5, S6, e3, h⟩ := ob2 h
      refine v_call (pc := 62) (v := (some (.int r5))) (y := yLi_inLine) (θ' := tLi_inLine) (rm := rLi_inLine) (av := [.ref x0]) (st := [.int 0, .ref v1]) (cLi_inLine (l := gl Γ) hl e3) kLi_inLine iLi_inLine (iv_virt (y := yLi_inLine) (θ' := tLi_inLine) (kd := 8) (As := []) rfl (ckd_of e4) kLi_inLine (gT_in 1050 (by decide +kernel) rfl) nLi_inLine lLi_inLine mLi_inLine rfl (show decode (tC tLi_goOn) 62 = .ok (.invokevirtual 76, 3) by decide +kernel)) ⟨by rw [hR]; decide, by rw [hR]; decide, by rw [hR]; decide, by rw [hR]; decide⟩ (Nat.le_of_ble_eq_true rfl) ?_
      refine v_if_le (pc := 65) 75 (show decode (tC tLi_goOn) 65 = .ok (.ifCond .le 10, 3) by decide +kernel) (by decide) (fun c => ?_) (fun c => ?_)
      · replace h := ite_t c h
        refine v_iconst (pc := 75) (v := (-1)) (show decode (tC tLi_goOn) 75 = .ok (.iconst (-1), 1) by decide +kernel) (by decide) ?_
        obtain ⟨S7, e8, h⟩ := ob h
        refine v_iast (pc := 76) e8 (show decode (tC tLi_goOn) 76 = .ok (.iastore, 1) by decide +kernel) ?_
        refine v_iconst (pc := 77) (v := 0) (show decode (tC tLi_goOn) 77 = .ok (.iconst 0, 1) by decide +kernel) (by decide) ?_
        refine v_istore_n (pc := 78) [(2, .int 0), (0, .ref x0), (1, .int x1)] (show decode (tC tLi_goOn) 78 = .ok (.istore_n 2, 1) by decide +kernel) rfl (by decide) rfl ?_
        refine v_sub [(0, .ref x0), (1, .int x1), (2, .int 0)] [1, 2, 0] rfl ?_
        exact wLi_goOn_79 hR hl  fuel x0 x1 0 S7 h
      · replace h := ite_f c h
        refine v_aload_n (pc := 68) (show decode (tC tLi_goOn) 68 = .ok (.aload_n 0, 1) by decide +kernel) 0 rfl rfl ?_
        obtain ⟨_, e10, h⟩ := ob h
        obtain ⟨r11, S12, e9, h⟩ := ob2 h
        refine v_call (pc := 69) (v := (some (.int r11))) (y := yLi_enter) (θ' := tLi_enter) (rm := rLi_enter) (av := [.ref x0]) (st := [.int 0, .ref v1]) (cLi_enter (l := gl Γ) hl e9) kLi_enter iLi_enter (iv_virt (y := yLi_enter) (θ' := tLi_enter) (kd := 8) (As := []) rfl (ckd_of e10) kLi_enter (gT_in 1051 (by decide +kernel) rfl) nLi_enter lLi_enter mLi_enter rfl (show decode (tC tLi_goOn) 69 = .ok (.invokevirtual 80, 3) by decide +kernel)) ⟨by rw [hR]; decide, by rw [hR]; decide, by rw [hR]; decide, by rw [hR]; decide⟩ (Nat.le_of_ble_eq_true rfl) ?_
        refine v_goto (pc := 72) 76 (show decode (tC tLi_goOn) 72 = .ok (.goto 4, 3) by decide +kernel) (by decide) ?_
        obtain ⟨S13, e14, h⟩ := ob h
        refine v_iast (pc := 76) e14 (show decode (tC tLi_goOn) 76 = .ok (.iastore, 1) by decide +kernel) ?_
        refine v_iconst (pc := 77) (v := 0) (show decode (tC tLi_goOn) 77 = .ok (.iconst 0, 1) by decide +kernel) (by decide) ?_
        refine v_istore_n (pc := 78) [(2, .int 0), (0, .ref x0), (1, .int x1)] (show decode (tC tLi_goOn) 78 = .ok (.istore_n 2, 1) by decide +kernel) rfl (by decide) rfl ?_
        refine v_sub [(0, .ref x0), (1, .int x1), (2, .int 0)] [1, 2, 0] rfl ?_
        exact wLi_goOn_79 hR hl  fuel x0 x1 0 S13 h
    · replace h := ite_f c h
      refine v_aload_n (pc := 36) (show decode (tC tLi_goOn) 36 = .ok (.aload_n 0, 1) by decide +kernel) 0 rfl rfl ?_
      obtain ⟨v15, e16, h⟩ := ob h
      refine v_getX (pc := 37) oF_Li_37 e16 (show decode (tC tLi_goOn) 37 = .ok (.getfield 37, 3) by decide +kernel) ?_
      refine v_iload_n (pc := 40) (show decode (tC tLi_goOn) 40 = .ok (.iload_n 2, 1) by decide +kernel) 2 rfl rfl ?_
      refine v_aload_n (pc := 41) (show decode (tC tLi_goOn) 41 = .ok (.aload_n 0, 1) by decide +kernel) 0 rfl rfl ?_
      obtain ⟨v17, e18, h⟩ := ob h
      refine v_getX (pc := 42) oF_Li_37 e18 (show decode (tC tLi_goOn) 42 = .ok (.getfield 37, 3) by decide +kernel) ?_
      refine v_iload_n (pc := 45) (show decode (tC tLi_goOn) 45 = .ok (.iload_n 2, 1) by decide +kernel) 2 rfl rfl ?_
      refine v_iconst (pc := 46) (v := 1) (show decode (tC tLi_goOn) 46 = .ok (.iconst 1, 1) by decide +kernel) (by decide) ?_
      refine v_isub (pc := 47) (show decode (tC tLi_goOn) 47 = .ok (.isub, 1) by decide +kernel) ?_
      obtain ⟨v19, e20, h⟩ := ob h
      refine v_iald (pc := 48) e20 (show decode (tC tLi_goOn) 48 = .ok (.iaload, 1) by decide +kernel) ?_
      obtain ⟨S21, e22, h⟩ := ob h
      refine v_iast (pc := 49) e22 (show decode (tC tLi_goOn) 49 = .ok (.iastore, 1) by decide +kernel) ?_
      refine v_iinc (pc := 50) (j := 2) [(2, .int (x2 + (-1))), (0, .ref x0), (1, .int x1)] (show decode (tC tLi_goOn) 50 = .ok (.iinc 2 (-1), 3) by decide +kernel) rfl rfl (by decide) rfl ?_
      refine v_goto (pc := 53) 32 (show decode (tC tLi_goOn) 53 = .ok (.goto (-21), 3) by decide +kernel) (by decide) ?_
      refine v_sub [(0, .ref x0), (1, .int x1), (2, .int (x2 + (-1)))] [1, 2, 0] rfl ?_
      exact ih x0 x1 (x2 + (-1)) S21 h
def fLi_goOn (x0 : Nat) (S : Sx) : Option (Sx) :=
    (gX S 8 1 x0).bind fun v1 =>
    (gI S 7 4 v1).bind fun v3 =>
    (gX S 8 4 x0).bind fun v5 =>
    (aI S v5 (v3 - 1)).bind fun v7 =>
    if v7 = (-1) then
    (fLi_goOn_32  fuel x0 (v3 - 1) (v3 - 1) S)
    else
    ((gX S 8 4 x0).bind fun v9 =>
    (aI S v9 (v3 - 1)).bind fun v11 =>
    (ckd S x0 8).bind fun _ =>
    (fLi_leave x0 v11 S).bind fun S15 =>
    fLi_goOn_32  fuel x0 (v3 - 1) (v3 - 1) S15)
set_option maxRecDepth 100000 in
set_option maxHeartbeats 4000000 in
theorem wLi_goOn {Γ : vG} (hR : gR Γ = rLi_goOn) (hl : (gl Γ).flags = pinnedFlags ++ [noTraceFlag]) (x0 : Nat) (S : Sx) {X : Sx} (h : fLi_goOn x0 S = some X) : vV Γ tLi_goOn (mQ Γ 0 0 0 none X) S 0 0 0 [(0, .ref x0)] [] := by
  unfold fLi_goOn at h
  refine v_aload_n (pc := 0) (show decode (tC tLi_goOn) 0 = .ok (.aload_n 0, 1) by decide +kernel) 0 rfl rfl ?_
  obtain ⟨v1, e2, h⟩ := ob h
  refine v_getX (pc := 1) oF_Li_21 e2 (show decode (tC tLi_goOn) 1 = .ok (.getfield 21, 3) by decide +kernel) ?_
  obtain ⟨v3, e4, h⟩ := ob h
  refine v_getI (pc := 4) oF_Li_69 (by decide) e4 (show decode (tC tLi_goOn) 4 = .ok (.getfield 69, 3) by decide +kernel) ?_
  refine v_iconst (pc := 7) (v := 1) (show decode (tC tLi_goOn) 7 = .ok (.iconst 1, 1) by decide +kernel) (by decide) ?_
  refine v_isub (pc := 8) (show decode (tC tLi_goOn) 8 = .ok (.isub, 1) by decide +kernel) ?_
  refine v_istore_n (pc := 9) [(1, .int (v3 - 1)), (0, .ref x0)] (show decode (tC tLi_goOn) 9 = .ok (.istore_n 1, 1) by decide +kernel) rfl (by decide) rfl ?_
  refine v_aload_n (pc := 10) (show decode (tC tLi_goOn) 10 = .ok (.aload_n 0, 1) by decide +kernel) 1 rfl rfl ?_
  obtain ⟨v5, e6, h⟩ := ob h
  refine v_getX (pc := 11) oF_Li_37 e6 (show decode (tC tLi_goOn) 11 = .ok (.getfield 37, 3) by decide +kernel) ?_
  refine v_iload_n (pc := 14) (show decode (tC tLi_goOn) 14 = .ok (.iload_n 1, 1) by decide +kernel) 0 rfl rfl ?_
  obtain ⟨v7, e8, h⟩ := ob h
  refine v_iald (pc := 15) e8 (show decode (tC tLi_goOn) 15 = .ok (.iaload, 1) by decide +kernel) ?_
  refine v_iconst (pc := 16) (v := (-1)) (show decode (tC tLi_goOn) 16 = .ok (.iconst (-1), 1) by decide +kernel) (by decide) ?_
  refine v_icmp_eq (pc := 17) 30 (show decode (tC tLi_goOn) 17 = .ok (.if_icmp .eq 13, 3) by decide +kernel) (by decide) (fun c => ?_) (fun c => ?_)
  · replace h := ite_t c h
    refine v_iload_n (pc := 30) (show decode (tC tLi_goOn) 30 = .ok (.iload_n 1, 1) by decide +kernel) 0 rfl rfl ?_
    refine v_istore_n (pc := 31) [(2, .int (v3 - 1)), (1, .int (v3 - 1)), (0, .ref x0)] (show decode (tC tLi_goOn) 31 = .ok (.istore_n 2, 1) by decide +kernel) rfl (by decide) rfl ?_
    refine v_sub [(0, .ref x0), (1, .int (v3 - 1)), (2, .int (v3 - 1))] [2, 1, 0] rfl ?_
    exact wLi_goOn_32 hR hl  fuel x0 (v3 - 1) (v3 - 1) S h
  · replace h := ite_f c h
    refine v_aload_n (pc := 20) (show decode (tC tLi_goOn) 20 = .ok (.aload_n 0, 1) by decide +kernel) 1 rfl rfl ?_
    refine v_aload_n (pc := 21) (show decode (tC tLi_goOn) 21 = .ok (.aload_n 0, 1) by decide +kernel) 1 rfl rfl ?_
    obtain ⟨v9, e10, h⟩ := ob h
    refine v_getX (pc := 22) oF_Li_37 e10 (show decode (tC tLi_goOn) 22 = .ok (.getfield 37, 3) by decide +kernel) ?_
    refine v_iload_n (pc := 25) (show decode (tC tLi_goOn) 25 = .ok (.iload_n 1, 1) by decide +kernel) 0 rfl rfl ?_
    obtain ⟨v11, e12, h⟩ := ob h
    refine v_iald (pc := 26) e12 (show decode (tC tLi_goOn) 26 = .ok (.iaload, 1) by decide +kernel) ?_
    obtain ⟨_, e14, h⟩ := ob h
    obtain ⟨S15, e13, h⟩ := ob h
    refine v_call (pc := 27) (v := none) (y := yLi_leave) (θ' := tLi_leave) (rm := rLi_leave) (av := [.ref x0, .int v11]) (st := []) (cLi_leave (l := gl Γ) hl e13) kLi_leave iLi_leave (iv_virt (y := yLi_leave) (θ' := tLi_leave) (kd := 8) (As := [.int v11]) rfl (ckd_of e14) kLi_leave (gT_in 1036 (by decide +kernel) rfl) nLi_leave lLi_leave mLi_leave rfl (show decode (tC tLi_goOn) 27 = .ok (.invokevirtual 72, 3) by decide +kernel)) ⟨by rw [hR]; decide, by rw [hR]; decide, by rw [hR]; decide, by rw [hR]; decide⟩ (Nat.le_of_ble_eq_true rfl) ?_
    refine v_iload_n (pc := 30) (show decode (tC tLi_goOn) 30 = .ok (.iload_n 1, 1) by decide +kernel) 0 rfl rfl ?_
    refine v_istore_n (pc := 31) [(2, .int (v3 - 1)), (1, .int (v3 - 1)), (0, .ref x0)] (show decode (tC tLi_goOn) 31 = .ok (.istore_n 2, 1) by decide +kernel) rfl (by decide) rfl ?_
    refine v_sub [(0, .ref x0), (1, .int (v3 - 1)), (2, .int (v3 - 1))] [2, 1, 0] rfl ?_
    exact wLi_goOn_32 hR hl  fuel x0 (v3 - 1) (v3 - 1) S15 h
theorem cLi_goOn {l : Launch} (hl : l.flags = pinnedFlags ++ [noTraceFlag]) {D : va_G} {dA : Nat → ClassId} {B : Nat} {x0 : Nat} {S : Sx} {X : Sx} (h : fLi_goOn x0 S = some X) : Mx l yLi_goOn tLi_goOn rLi_goOn 0 0 D dA B S [.ref x0] 0 none X :=
  mx_of hl (by decide) rfl rfl (Nat.le_of_ble_eq_true rfl) (fun Γ e1 e2 e3 e4 e5 => by subst e1; subst e3; subst e4; subst e5; exact wLi_goOn e2 hl x0 S h)
