theorem oF_Mp_59 : okF "MatchPipe" 59 0 6 0 := ⟨_, rfl, by decide, gT_in 511 (by decide +kernel) rfl, rfl⟩
theorem oF_Mp_70 : okF "MatchPipe" 70 1 5 0 := ⟨_, rfl, by decide, gT_in 299 (by decide +kernel) rfl, rfl⟩
theorem oF_Mp_77 : okF "MatchPipe" 77 1 0 1 := ⟨_, rfl, by decide, gT_in 282 (by decide +kernel) rfl, rfl⟩
theorem oF_Mp_89 : okF "MatchPipe" 89 1 6 0 := ⟨_, rfl, by decide, gT_in 302 (by decide +kernel) rfl, rfl⟩
theorem oF_Mp_92 : okF "MatchPipe" 92 1 1 1 := ⟨_, rfl, by decide, gT_in 286 (by decide +kernel) rfl, rfl⟩
theorem oF_Mp_101 : okF "MatchPipe" 101 2 0 1 := ⟨_, rfl, by decide, gT_in 112 (by decide +kernel) rfl, rfl⟩
theorem oF_Mp_107 : okF "MatchPipe" 107 2 6 0 := ⟨_, rfl, by decide, gT_in 122 (by decide +kernel) rfl, rfl⟩
theorem oF_Mp_117 : okF "MatchPipe" 117 2 7 0 := ⟨_, rfl, by decide, gT_in 125 (by decide +kernel) rfl, rfl⟩
theorem oF_Mp_120 : okF "MatchPipe" 120 1 7 0 := ⟨_, rfl, by decide, gT_in 305 (by decide +kernel) rfl, rfl⟩
theorem oF_Mp_123 : okF "MatchPipe" 123 1 2 1 := ⟨_, rfl, by decide, gT_in 289 (by decide +kernel) rfl, rfl⟩
theorem oF_Mp_127 : okF "MatchPipe" 127 3 4 0 := ⟨_, rfl, by decide, gT_in 159 (by decide +kernel) rfl, rfl⟩
theorem oF_Mp_166 : okF "MatchPipe" 166 1 8 0 := ⟨_, rfl, by decide, gT_in 307 (by decide +kernel) rfl, rfl⟩
theorem oF_Mp_169 : okF "MatchPipe" 169 1 3 1 := ⟨_, rfl, by decide, gT_in 292 (by decide +kernel) rfl, rfl⟩
theorem oF_Mp_189 : okF "MatchPipe" 189 1 9 0 := ⟨_, rfl, by decide, gT_in 310 (by decide +kernel) rfl, rfl⟩
theorem oF_Mp_192 : okF "MatchPipe" 192 1 4 1 := ⟨_, rfl, by decide, gT_in 296 (by decide +kernel) rfl, rfl⟩
theorem oF_Mp_210 : okF "MatchPipe" 210 7 3 2 := ⟨_, rfl, by decide, gT_in 345 (by decide +kernel) rfl, rfl⟩
theorem oF_Mp_216 : okF "MatchPipe" 216 7 4 0 := ⟨_, rfl, by decide, gT_in 347 (by decide +kernel) rfl, rfl⟩
theorem oF_Mp_219 : okF "MatchPipe" 219 7 5 0 := ⟨_, rfl, by decide, gT_in 350 (by decide +kernel) rfl, rfl⟩
theorem oF_Mp_222 : okF "MatchPipe" 222 7 6 0 := ⟨_, rfl, by decide, gT_in 352 (by decide +kernel) rfl, rfl⟩
theorem oF_Mp_225 : okF "MatchPipe" 225 7 0 1 := ⟨_, rfl, by decide, gT_in 339 (by decide +kernel) rfl, rfl⟩
theorem oF_Mp_228 : okF "MatchPipe" 228 10 0 1 := ⟨_, rfl, by decide, gT_in 386 (by decide +kernel) rfl, rfl⟩
theorem oF_Mp_248 : okF "MatchPipe" 248 9 1 1 := ⟨_, rfl, by decide, gT_in 395 (by decide +kernel) rfl, rfl⟩
theorem oF_Mp_255 : okF "MatchPipe" 255 9 2 0 := ⟨_, rfl, by decide, gT_in 397 (by decide +kernel) rfl, rfl⟩
theorem oF_Mp_258 : okF "MatchPipe" 258 8 6 0 := ⟨_, rfl, by decide, gT_in 474 (by decide +kernel) rfl, rfl⟩
theorem oF_Mp_261 : okF "MatchPipe" 261 9 0 1 := ⟨_, rfl, by decide, gT_in 392 (by decide +kernel) rfl, rfl⟩
theorem oF_Mp_275 : okF "MatchPipe" 275 8 8 0 := ⟨_, rfl, by decide, gT_in 477 (by decide +kernel) rfl, rfl⟩
theorem oF_Mp_288 : okF "MatchPipe" 288 9 3 0 := ⟨_, rfl, by decide, gT_in 400 (by decide +kernel) rfl, rfl⟩
theorem oF_Mp_291 : okF "MatchPipe" 291 9 5 0 := ⟨_, rfl, by decide, gT_in 405 (by decide +kernel) rfl, rfl⟩
theorem oF_Mp_298 : okF "MatchPipe" 298 9 6 0 := ⟨_, rfl, by decide, gT_in 407 (by decide +kernel) rfl, rfl⟩
theorem oF_Mp_301 : okF "MatchPipe" 301 9 7 0 := ⟨_, rfl, by decide, gT_in 409 (by decide +kernel) rfl, rfl⟩
theorem oF_Mp_307 : okF "MatchPipe" 307 8 5 1 := ⟨_, rfl, by decide, gT_in 472 (by decide +kernel) rfl, rfl⟩
theorem oF_Mp_313 : okF "MatchPipe" 313 4 1 0 := ⟨_, rfl, by decide, gT_in 217 (by decide +kernel) rfl, rfl⟩
theorem oF_Mp_323 : okF "MatchPipe" 323 8 9 0 := ⟨_, rfl, by decide, gT_in 479 (by decide +kernel) rfl, rfl⟩
/-! MatchPipe.clear()V -/
def yMp_clear : MethodName := ⟨"MatchPipe", "clear", "()V"⟩
def tMp_clear : tM := (prog_1_method_2_code, "MatchPipe", 1, "clear", none, [])
def rMp_clear : Room := { frames := 2, cells := 0, slots := 0, locals := 43 }
theorem kMp_clear : cOf yMp_clear tMp_clear ∈ gT := gT_in 530 (by decide +kernel) rfl
theorem iMp_clear : Cond.initialized yMp_clear.cls ∈ gT := gT_in 55 (by decide +kernel) rfl
theorem mMp_clear : okM yMp_clear 0 := ⟨by decide, by decide, by unfold nPar; decide +kernel⟩
theorem nMp_clear : Cond.instanceMethod yMp_clear ∈ gT := gT_in 528 (by decide +kernel) rfl
theorem lMp_clear : Cond.selects "MatchPipe" yMp_clear yMp_clear ∈ gT := gT_in 529 (by decide +kernel) rfl
def fMp_clear (x0 : Nat) (S : Sx) : Option (Sx) :=
    (gX S 0 1 x0).bind fun v1 =>
    (ckd S v1 1).bind fun _ =>
    (fPr_forget v1 S).bind fun S5 =>
    (gX S5 0 2 x0).bind fun v6 =>
    (ckd S5 v6 7).bind fun _ =>
    (fLa_forget v6 S5).bind fun S10 =>
    (gX S10 0 0 x0).bind fun v11 =>
    (ckd S10 v11 8).bind fun _ =>
    (fLi_forget v11 S10).bind fun S15 =>
    (gX S15 0 3 x0).bind fun v16 =>
    (ckd S15 v16 5).bind fun _ =>
    (fEn_setKey v16 0 0 0 0 S15).bind fun S20 =>
    (gX S20 0 4 x0).bind fun v21 =>
    (ckd S20 v21 10).bind fun _ =>
    (fBi_zero v21 S20).bind fun S25 =>
    (pI S25 0 6 x0 0).bind fun S26 =>
    some S26
set_option maxRecDepth 100000 in
set_option maxHeartbeats 4000000 in
theorem wMp_clear {Γ : vG} (hR : gR Γ = rMp_clear) (hl : (gl Γ).flags = pinnedFlags ++ [noTraceFlag]) (x0 : Nat) (S : Sx) {X : Sx} (h : fMp_clear x0 S = some X) : vV Γ tMp_clear (mQ Γ 0 0 0 none X) S 0 0 0 [(0, .ref x0)] [] := by
  unfold fMp_clear at h
  refine v_aload_n (pc := 0) (show decode (tC tMp_clear) 0 = .ok (.aload_n 0, 1) by decide +kernel) 0 rfl rfl ?_
  obtain ⟨v1, e2, h⟩ := ob h
  refine v_getX (pc := 1) oF_Mp_20 e2 (show decode (tC tMp_clear) 1 = .ok (.getfield 20, 3) by decide +kernel) ?_
  obtain ⟨_, e4, h⟩ := ob h
  obtain ⟨S5, e3, h⟩ := ob h
  refine v_call (pc := 4) (v := none) (y := yPr_forget) (θ' := tPr_forget) (rm := rPr_forget) (av := [.ref v1]) (st := []) (cPr_forget (l := gl Γ) hl e3) kPr_forget iPr_forget (iv_virt (y := yPr_forget) (θ' := tPr_forget) (kd := 1) (As := []) rfl (ckd_of e4) kPr_forget (gT_in 531 (by decide +kernel) rfl) nPr_forget lPr_forget mPr_forget rfl (show decode (tC tMp_clear) 4 = .ok (.invokevirtual 43, 3) by decide +kernel)) ⟨by rw [hR]; decide, by rw [hR]; decide, by rw [hR]; decide, by rw [hR]; decide⟩ (Nat.le_of_ble_eq_true rfl) ?_
  refine v_aload_n (pc := 7) (show decode (tC tMp_clear) 7 = .ok (.aload_n 0, 1) by decide +kernel) 0 rfl rfl ?_
  obtain ⟨v6, e7, h⟩ := ob h
  refine v_getX (pc := 8) oF_Mp_25 e7 (show decode (tC tMp_clear) 8 = .ok (.getfield 25, 3) by decide +kernel) ?_
  obtain ⟨_, e9, h⟩ := ob h
  obtain ⟨S10, e8, h⟩ := ob h
  refine v_call (pc := 11) (v := none) (y := yLa_forget) (θ' := tLa_forget) (rm := rLa_forget) (av := [.ref v6]) (st := []) (cLa_forget (l := gl Γ) hl e8) kLa_forget iLa_forget (iv_virt (y := yLa_forget) (θ' := tLa_forget) (kd := 7) (As := []) rfl (ckd_of e9) kLa_forget (gT_in 535 (by decide +kernel) rfl) nLa_forget lLa_forget mLa_forget rfl (show decode (tC tMp_clear) 11 = .ok (.invokevirtual 48, 3) by decide +kernel)) ⟨by rw [hR]; decide, by rw [hR]; decide, by rw [hR]; decide, by rw [hR]; decide⟩ (Nat.le_of_ble_eq_true rfl) ?_
  refine v_aload_n (pc := 14) (show decode (tC tMp_clear) 14 = .ok (.aload_n 0, 1) by decide +kernel) 0 rfl rfl ?_
  obtain ⟨v11, e12, h⟩ := ob h
  refine v_getX (pc := 15) oF_Mp_10 e12 (show decode (tC tMp_clear) 15 = .ok (.getfield 10, 3) by decide +kernel) ?_
  obtain ⟨_, e14, h⟩ := ob h
  obtain ⟨S15, e13, h⟩ := ob h
  refine v_call (pc := 18) (v := none) (y := yLi_forget) (θ' := tLi_forget) (rm := rLi_forget) (av := [.ref v11]) (st := []) (cLi_forget (l := gl Γ) hl e13) kLi_forget iLi_forget (iv_virt (y := yLi_forget) (θ' := tLi_forget) (kd := 8) (As := []) rfl (ckd_of e14) kLi_forget (gT_in 539 (by decide +kernel) rfl) nLi_forget lLi_forget mLi_forget rfl (show decode (tC tMp_clear) 18 = .ok (.invokevirtual 51, 3) by decide +kernel)) ⟨by rw [hR]; decide, by rw [hR]; decide, by rw [hR]; decide, by rw [hR]; decide⟩ (Nat.le_of_ble_eq_true rfl) ?_
  refine v_aload_n (pc := 21) (show decode (tC tMp_clear) 21 = .ok (.aload_n 0, 1) by decide +kernel) 0 rfl rfl ?_
  obtain ⟨v16, e17, h⟩ := ob h
  refine v_getX (pc := 22) oF_Mp_29 e17 (show decode (tC tMp_clear) 22 = .ok (.getfield 29, 3) by decide +kernel) ?_
  refine v_iconst (pc := 25) (v := 0) (show decode (tC tMp_clear) 25 = .ok (.iconst 0, 1) by decide +kernel) (by decide) ?_
  refine v_iconst (pc := 26) (v := 0) (show decode (tC tMp_clear) 26 = .ok (.iconst 0, 1) by decide +kernel) (by decide) ?_
  refine v_iconst (pc := 27) (v := 0) (show decode (tC tMp_clear) 27 = .ok (.iconst 0, 1) by decide +kernel) (by decide) ?_
  refine v_iconst (pc := 28) (v := 0) (show decode (tC tMp_clear) 28 = .ok (.iconst 0, 1) by decide +kernel) (by decide) ?_
  obtain ⟨_, e19, h⟩ := ob h
  obtain ⟨S20, e18, h⟩ := ob h
  refine v_call (pc := 29) (v := none) (y := yEn_setKey) (θ' := tEn_setKey) (rm := rEn_setKey) (av := [.ref v16, .int 0, .int 0, .int 0, .int 0]) (st := []) (cEn_setKey (l := gl Γ) hl e18) kEn_setKey iEn_setKey (iv_virt (y := yEn_setKey) (θ' := tEn_setKey) (kd := 5) (As := [.int 0, .int 0, .int 0, .int 0]) rfl (ckd_of e19) kEn_setKey (gT_in 543 (by decide +kernel) rfl) nEn_setKey lEn_setKey mEn_setKey rfl (show decode (tC tMp_clear) 29 = .ok (.invokevirtual 52, 3) by decide +kernel)) ⟨by rw [hR]; decide, by rw [hR]; decide, by rw [hR]; decide, by rw [hR]; decide⟩ (Nat.le_of_ble_eq_true rfl) ?_
  refine v_aload_n (pc := 32) (show decode (tC tMp_clear) 32 = .ok (.aload_n 0, 1) by decide +kernel) 0 rfl rfl ?_
  obtain ⟨v21, e22, h⟩ := ob h
  refine v_getX (pc := 33) oF_Mp_36 e22 (show decode (tC tMp_clear) 33 = .ok (.getfield 36, 3) by decide +kernel) ?_
  obtain ⟨_, e24, h⟩ := ob h
  obtain ⟨S25, e23, h⟩ := ob h
  refine v_call (pc := 36) (v := none) (y := yBi_zero) (θ' := tBi_zero) (rm := rBi_zero) (av := [.ref v21]) (st := []) (cBi_zero (l := gl Γ) hl e23) kBi_zero iBi_zero (iv_virt (y := yBi_zero) (θ' := tBi_zero) (kd := 10) (As := []) rfl (ckd_of e24) kBi_zero (gT_in 547 (by decide +kernel) rfl) nBi_zero lBi_zero mBi_zero rfl (show decode (tC tMp_clear) 36 = .ok (.invokevirtual 56, 3) by decide +kernel)) ⟨by rw [hR]; decide, by rw [hR]; decide, by rw [hR]; decide, by rw [hR]; decide⟩ (Nat.le_of_ble_eq_true rfl) ?_
  refine v_aload_n (pc := 39) (show decode (tC tMp_clear) 39 = .ok (.aload_n 0, 1) by decide +kernel) 0 rfl rfl ?_
  refine v_iconst (pc := 40) (v := 0) (show decode (tC tMp_clear) 40 = .ok (.iconst 0, 1) by decide +kernel) (by decide) ?_
  obtain ⟨S26, e27, h⟩ := ob h
  refine v_putI (pc := 41) oF_Mp_59 (fin_ok (kd := 0) (k := 6) (by decide +kernel)) e27 (show decode (tC tMp_clear) 41 = .ok (.putfield 59, 3) by decide +kernel) ?_
  obtain rfl := Option.some.inj h
  refine v_wide (ce2 := 0) (sl2 := 0) (by decide) (by decide) ?_
  exact v_vret (pc := 44) rfl (show decode (tC tMp_clear) 44 = .ok (.return_, 1) by decide +kernel)
theorem cMp_clear {l : Launch} (hl : l.flags = pinnedFlags ++ [noTraceFlag]) {D : va_G} {dA : Nat → ClassId} {B : Nat} {x0 : Nat} {S : Sx} {X : Sx} (h : fMp_clear x0 S = some X) : Mx l yMp_clear tMp_clear rMp_clear 0 0 D dA B S [.ref x0] 0 none X :=
  mx_of hl (by decide) rfl rfl (Nat.le_of_ble_eq_true rfl) (fun Γ e1 e2 e3 e4 e5 => by subst e1; subst e3; subst e4; subst e5; exact wMp_clear e2 hl x0 S h)
/-! MatchPipe.fault(I)I -/
def yMp_fault : MethodName := ⟨"MatchPipe", "fault", "(I)I"⟩
def tMp_fault : tM := (prog_1_method_13_code, "MatchPipe", 2, "fault", some .int, [])
def rMp_fault : Room := { frames := 0, cells := 0, slots := 0, locals := 0 }
theorem kMp_fault : cOf yMp_fault tMp_fault ∈ gT := gT_in 555 (by decide +kernel) rfl
theorem iMp_fault : Cond.initialized yMp_fault.cls ∈ gT := gT_in 55 (by decide +kernel) rfl
theorem mMp_fault : okM yMp_fault 1 := ⟨by decide, by decide, by unfold nPar; decide +kernel⟩
theorem nMp_fault : Cond.instanceMethod yMp_fault ∈ gT := gT_in 553 (by decide +kernel) rfl
theorem lMp_fault : Cond.selects "MatchPipe" yMp_fault yMp_fault ∈ gT := gT_in 554 (by decide +kernel) rfl
def fMp_fault (x0 : Nat) (x1 : Int32) (S : Sx) : Option (Int32 × Sx) :=
    if x1 = 0 then
    ((gX S 0 2 x0).bind fun v1 =>
    (gI S 7 5 v1).bind fun v3 =>
    some (v3, S))
    else if x1 = 1 then
    ((gX S 0 2 x0).bind fun v5 =>
    (gI S 7 6 v5).bind fun v7 =>
    some (v7, S))
    else 
    (some ((-1), S))
set_option maxRecDepth 100000 in
set_option maxHeartbeats 4000000 in
theorem wMp_fault {Γ : vG} (hR : gR Γ = rMp_fault) (hl : (gl Γ).flags = pinnedFlags ++ [noTraceFlag]) (x0 : Nat) (x1 : Int32) (S : Sx) {X : Int32 × Sx} (h : fMp_fault x0 x1 S = some X) : vV Γ tMp_fault (mQ Γ 0 0 0 (some (.int X.1)) X.2) S 0 0 0 [(0, .ref x0), (1, .int x1)] [] := by
  unfold fMp_fault at h
  refine v_iload_n (pc := 0) (show decode (tC tMp_fault) 0 = .ok (.iload_n 1, 1) by decide +kernel) 1 rfl rfl ?_
  by_cases c0 : x1 = 0
  · replace h := ite_t c0 h
    refine v_lkp (pc := 1) (off := 27) 28 (show decode (tC tMp_fault) 1 = .ok (.lookupswitch 43 #[(0, 27), (1, 35)], 27) by decide +kernel) (by decide) (by rw [c0]; decide) (by decide) ?_
    refine v_aload_n (pc := 28) (show decode (tC tMp_fault) 28 = .ok (.aload_n 0, 1) by decide +kernel) 0 rfl rfl ?_
    obtain ⟨v1, e2, h⟩ := ob h
    refine v_getX (pc := 29) oF_Mp_25 e2 (show decode (tC tMp_fault) 29 = .ok (.getfield 25, 3) by decide +kernel) ?_
    obtain ⟨v3, e4, h⟩ := ob h
    refine v_getI (pc := 32) oF_Mp_219 (by decide) e4 (show decode (tC tMp_fault) 32 = .ok (.getfield 219, 3) by decide +kernel) ?_
    obtain rfl := Option.some.inj h
    refine v_wide (ce2 := 0) (sl2 := 0) (by decide) (by decide) ?_
    exact v_iret (pc := 35) rfl (show decode (tC tMp_fault) 35 = .ok (.ireturn, 1) by decide +kernel)
  · replace h := ite_f c0 h
    by_cases c1 : x1 = 1
    · replace h := ite_t c1 h
      refine v_lkp (pc := 1) (off := 35) 36 (show decode (tC tMp_fault) 1 = .ok (.lookupswitch 43 #[(0, 27), (1, 35)], 27) by decide +kernel) (by decide) (by rw [c1]; decide) (by decide) ?_
      refine v_aload_n (pc := 36) (show decode (tC tMp_fault) 36 = .ok (.aload_n 0, 1) by decide +kernel) 0 rfl rfl ?_
      obtain ⟨v5, e6, h⟩ := ob h
      refine v_getX (pc := 37) oF_Mp_25 e6 (show decode (tC tMp_fault) 37 = .ok (.getfield 25, 3) by decide +kernel) ?_
      obtain ⟨v7, e8, h⟩ := ob h
      refine v_getI (pc := 40) oF_Mp_222 (by decide) e8 (show decode (tC tMp_fault) 40 = .ok (.getfield 222, 3) by decide +kernel) ?_
      obtain rfl := Option.some.inj h
      refine v_wide (ce2 := 0) (sl2 := 0) (by decide) (by decide) ?_
      exact v_iret (pc := 43) rfl (show decode (tC tMp_fault) 43 = .ok (.ireturn, 1) by decide +kernel)
    · replace h := ite_f c1 h
      refine v_lkp (pc := 1) (off := 43) 44 (show decode (tC tMp_fault) 1 = .ok (.lookupswitch 43 #[(0, 27), (1, 35)], 27) by decide +kernel) (by decide) (by show Op.lookupswitch.offset [(0, 27), (1, 35)] 43 _ = _; rw [lv_osw c0 (by decide), lv_osw c1 (by decide)]; rfl) (by decide) ?_
      refine v_iconst (pc := 44) (v := (-1)) (show decode (tC tMp_fault) 44 = .ok (.iconst (-1), 1) by decide +kernel) (by decide) ?_
      obtain rfl := Option.some.inj h
      refine v_wide (ce2 := 0) (sl2 := 0) (by decide) (by decide) ?_
      exact v_iret (pc := 45) rfl (show decode (tC tMp_fault) 45 = .ok (.ireturn, 1) by decide +kernel)
theorem cMp_fault {l : Launch} (hl : l.flags = pinnedFlags ++ [noTraceFlag]) {D : va_G} {dA : Nat → ClassId} {B : Nat} {x0 : Nat} {x1 : Int32} {S : Sx} {X : Int32 × Sx} (h : fMp_fault x0 x1 S = some X) : Mx l yMp_fault tMp_fault rMp_fault 0 0 D dA B S [.ref x0, .int x1] 0 (some (.int X.1)) X.2 :=
  mx_of hl (by decide) rfl rfl (Nat.le_of_ble_eq_true rfl) (fun Γ e1 e2 e3 e4 e5 => by subst e1; subst e3; subst e4; subst e5; exact wMp_fault e2 hl x0 x1 S h)
/-! MatchPipe.stage(I)I -/
def yMp_stage : MethodName := ⟨"MatchPipe", "stage", "(I)I"⟩
def tMp_stage : tM := (prog_1_method_14_code, "MatchPipe", 2, "stage", some .int, [])
def rMp_stage : Room := { frames := 0, cells := 0, slots := 0, locals := 0 }
theorem kMp_stage : cOf yMp_stage tMp_stage ∈ gT := gT_in 559 (by decide +kernel) rfl
theorem iMp_stage : Cond.initialized yMp_stage.cls ∈ gT := gT_in 55 (by decide +kernel) rfl
theorem mMp_stage : okM yMp_stage 1 := ⟨by decide, by decide, by unfold nPar; decide +kernel⟩
theorem nMp_stage : Cond.instanceMethod yMp_stage ∈ gT := gT_in 557 (by decide +kernel) rfl
theorem lMp_stage : Cond.selects "MatchPipe" yMp_stage yMp_stage ∈ gT := gT_in 558 (by decide +kernel) rfl
def fMp_stage (x0 : Nat) (x1 : Int32) (S : Sx) : Option (Int32 × Sx) :=
    (gX S 0 2 x0).bind fun v1 =>
    (gI S 7 3 v1).bind fun v3 =>
    if v3 = 0 then
    (some ((-1), S))
    else
    (if x1 < 0 then
    (some ((-1), S))
    else
    ((gX S 0 1 x0).bind fun v5 =>
    (gI S 1 9 v5).bind fun v7 =>
    if x1 < v7 then
    ((gX S 0 2 x0).bind fun v9 =>
    (gX S 7 0 v9).bind fun v11 =>
    (aI S v11 x1).bind fun v13 =>
    some (v13, S))
    else
    (some ((-1), S))))
set_option maxRecDepth 100000 in
set_option maxHeartbeats 4000000 in
theorem wMp_stage {Γ : vG} (hR : gR Γ = rMp_stage) (hl : (gl Γ).flags = pinnedFlags ++ [noTraceFlag]) (x0 : Nat) (x1 : Int32) (S : Sx) {X : Int32 × Sx} (h : fMp_stage x0 x1 S = some X) : vV Γ tMp_stage (mQ Γ 0 0 0 (some (.int X.1)) X.2) S 0 0 0 [(0, .ref x0), (1, .int x1)] [] := by
  unfold fMp_stage at h
  refine v_aload_n (pc := 0) (show decode (tC tMp_stage) 0 = .ok (.aload_n 0, 1) by decide +kernel) 0 rfl rfl ?_
  obtain ⟨v1, e2, h⟩ := ob h
  refine v_getX (pc := 1) oF_Mp_25 e2 (show decode (tC tMp_stage) 1 = .ok (.getfield 25, 3) by decide +kernel) ?_
  obtain ⟨v3, e4, h⟩ := ob h
  refine v_getI (pc := 4) oF_Mp_210 (by decide) e4 (show decode (tC tMp_stage) 4 = .ok (.getfield 210, 3) by decide +kernel) ?_
  refine v_if_eq (pc := 7) 25 (show decode (tC tMp_stage) 7 = .ok (.ifCond .eq 18, 3) by decide +kernel) (by decide) (fun c => ?_) (fun c => ?_)
  · replace h := ite_t c h
    refine v_iconst (pc := 25) (v := (-1)) (show decode (tC tMp_stage) 25 = .ok (.iconst (-1), 1) by decide +kernel) (by decide) ?_
    obtain rfl := Option.some.inj h
    refine v_wide (ce2 := 0) (sl2 := 0) (by decide) (by decide) ?_
    exact v_iret (pc := 26) rfl (show decode (tC tMp_stage) 26 = .ok (.ireturn, 1) by decide +kernel)
  · replace h := ite_f c h
    refine v_iload_n (pc := 10) (show decode (tC tMp_stage) 10 = .ok (.iload_n 1, 1) by decide +kernel) 1 rfl rfl ?_
    refine v_if_lt (pc := 11) 25 (show decode (tC tMp_stage) 11 = .ok (.ifCond .lt 14, 3) by decide +kernel) (by decide) (fun c => ?_) (fun c => ?_)
    · replace h := ite_t c h
      refine v_iconst (pc := 25) (v := (-1)) (show decode (tC tMp_stage) 25 = .ok (.iconst (-1), 1) by decide +kernel) (by decide) ?_
      obtain rfl := Option.some.inj h
      refine v_wide (ce2 := 0) (sl2 := 0) (by decide) (by decide) ?_
      exact v_iret (pc := 26) rfl (show decode (tC tMp_stage) 26 = .ok (.ireturn, 1) by decide +kernel)
    · replace h := ite_f c h
      refine v_iload_n (pc := 14) (show decode (tC tMp_stage) 14 = .ok (.iload_n 1, 1) by decide +kernel) 1 rfl rfl ?_
      refine v_aload_n (pc := 15) (show decode (tC tMp_stage) 15 = .ok (.aload_n 0, 1) by decide +kernel) 0 rfl rfl ?_
      obtain ⟨v5, e6, h⟩ := ob h
      refine v_getX (pc := 16) oF_Mp_20 e6 (show decode (tC tMp_stage) 16 = .ok (.getfield 20, 3) by decide +kernel) ?_
      obtain ⟨v7, e8, h⟩ := ob h
      refine v_getI (pc := 19) oF_Mp_189 (by decide) e8 (show decode (tC tMp_stage) 19 = .ok (.getfield 189, 3) by decide +kernel) ?_
      refine v_icmp_lt (pc := 22) 27 (show decode (tC tMp_stage) 22 = .ok (.if_icmp .lt 5, 3) by decide +kernel) (by decide) (fun c => ?_) (fun c => ?_)
      · replace h := ite_t c h
        refine v_aload_n (pc := 27) (show decode (tC tMp_stage) 27 = .ok (.aload_n 0, 1) by decide +kernel) 0 rfl rfl ?_
        obtain ⟨v9, e10, h⟩ := ob h
        refine v_getX (pc := 28) oF_Mp_25 e10 (show decode (tC tMp_stage) 28 = .ok (.getfield 25, 3) by decide +kernel) ?_
        obtain ⟨v11, e12, h⟩ := ob h
        refine v_getX (pc := 31) oF_Mp_225 e12 (show decode (tC tMp_stage) 31 = .ok (.getfield 225, 3) by decide +kernel) ?_
        refine v_iload_n (pc := 34) (show decode (tC tMp_stage) 34 = .ok (.iload_n 1, 1) by decide +kernel) 1 rfl rfl ?_
        obtain ⟨v13, e14, h⟩ := ob h
        refine v_iald (pc := 35) e14 (show decode (tC tMp_stage) 35 = .ok (.iaload, 1) by decide +kernel) ?_
        obtain rfl := Option.some.inj h
        refine v_wide (ce2 := 0) (sl2 := 0) (by decide) (by decide) ?_
        exact v_iret (pc := 36) rfl (show decode (tC tMp_stage) 36 = .ok (.ireturn, 1) by decide +kernel)
      · replace h := ite_f c h
        refine v_iconst (pc := 25) (v := (-1)) (show decode (tC tMp_stage) 25 = .ok (.iconst (-1), 1) by decide +kernel) (by decide) ?_
        obtain rfl := Option.some.inj h
        refine v_wide (ce2 := 0) (sl2 := 0) (by decide) (by decide) ?_
        exact v_iret (pc := 26) rfl (show decode (tC tMp_stage) 26 = .ok (.ireturn, 1) by decide +kernel)
theorem cMp_stage {l : Launch} (hl : l.flags = pinnedFlags ++ [noTraceFlag]) {D : va_G} {dA : Nat → ClassId} {B : Nat} {x0 : Nat} {x1 : Int32} {S : Sx} {X : Int32 × Sx} (h : fMp_stage x0 x1 S = some X) : Mx l yMp_stage tMp_stage rMp_stage 0 0 D dA B S [.ref x0, .int x1] 0 (some (.int X.1)) X.2 :=
  mx_of hl (by decide) rfl rfl (Nat.le_of_ble_eq_true rfl) (fun Γ e1 e2 e3 e4 e5 => by subst e1; subst e3; subst e4; subst e5; exact wMp_stage e2 hl x0 x1 S h)
/-! MatchPipe.feed(IIIII)V -/
def yMp_feed : MethodName := ⟨"MatchPipe", "feed", "(IIIII)V"⟩
def tMp_feed : tM := (prog_1_method_15_code, "MatchPipe", 6, "feed", none, [])
def rMp_feed : Room := { frames := 0, cells := 0, slots := 0, locals := 0 }
theorem kMp_feed : cOf yMp_feed tMp_feed ∈ gT := gT_in 563 (by decide +kernel) rfl
theorem iMp_feed : Cond.initialized yMp_feed.cls ∈ gT := gT_in 55 (by decide +kernel) rfl
theorem mMp_feed : okM yMp_feed 5 := ⟨by decide, by decide, by unfold nPar; decide +kernel⟩
theorem nMp_feed : Cond.instanceMethod yMp_feed ∈ gT := gT_in 561 (by decide +kernel) rfl
theorem lMp_feed : Cond.selects "MatchPipe" yMp_feed yMp_feed ∈ gT := gT_in 562 (by decide +kernel) rfl
def fMp_feed (x0 : Nat) (x1 : Int32) (x2 : Int32) (x3 : Int32) (x4 : Int32) (x5 : Int32) (S : Sx) : Option (Sx) :=
    (gX S 0 4 x0).bind fun v1 =>
    (gX S 10 0 v1).bind fun v3 =>
    (qI S v3 0 x1).bind fun S5 =>
    (gX S5 0 4 x0).bind fun v7 =>
    (gX S5 10 0 v7).bind fun v9 =>
    (qI S5 v9 1 x2).bind fun S11 =>
    (gX S11 0 4 x0).bind fun v13 =>
    (gX S11 10 0 v13).bind fun v15 =>
    (qI S11 v15 2 x3).bind fun S17 =>
    (gX S17 0 4 x0).bind fun v19 =>
    (gX S17 10 0 v19).bind fun v21 =>
    (qI S17 v21 3 x4).bind fun S23 =>
    (gX S23 0 4 x0).bind fun v25 =>
    (gX S23 10 0 v25).bind fun v27 =>
    (qI S23 v27 4 x5).bind fun S29 =>
    some S29
set_option maxRecDepth 100000 in
set_option maxHeartbeats 4000000 in
theorem wMp_feed {Γ : vG} (hR : gR Γ = rMp_feed) (hl : (gl Γ).flags = pinnedFlags ++ [noTraceFlag]) (x0 : Nat) (x1 : Int32) (x2 : Int32) (x3 : Int32) (x4 : Int32) (x5 : Int32) (S : Sx) {X : Sx} (h : fMp_feed x0 x1 x2 x3 x4 x5 S = some X) : vV Γ tMp_feed (mQ Γ 0 0 0 none X) S 0 0 0 [(0, .ref x0), (1, .int x1), (2, .int x2), (3, .int x3), (4, .int x4), (5, .int x5)] [] := by
  unfold fMp_feed at h
  refine v_aload_n (pc := 0) (show decode (tC tMp_feed) 0 = .ok (.aload_n 0, 1) by decide +kernel) 0 rfl rfl ?_
  obtain ⟨v1, e2, h⟩ := ob h
  refine v_getX (pc := 1) oF_Mp_36 e2 (show decode (tC tMp_feed) 1 = .ok (.getfield 36, 3) by decide +kernel) ?_
  obtain ⟨v3, e4, h⟩ := ob h
  refine v_getX (pc := 4) oF_Mp_228 e4 (show decode (tC tMp_feed) 4 = .ok (.getfield 228, 3) by decide +kernel) ?_
  refine v_iconst (pc := 7) (v := 0) (show decode (tC tMp_feed) 7 = .ok (.iconst 0, 1) by decide +kernel) (by decide) ?_
  refine v_iload_n (pc := 8) (show decode (tC tMp_feed) 8 = .ok (.iload_n 1, 1) by decide +kernel) 1 rfl rfl ?_
  obtain ⟨S5, e6, h⟩ := ob h
  refine v_iast (pc := 9) e6 (show decode (tC tMp_feed) 9 = .ok (.iastore, 1) by decide +kernel) ?_
  refine v_aload_n (pc := 10) (show decode (tC tMp_feed) 10 = .ok (.aload_n 0, 1) by decide +kernel) 0 rfl rfl ?_
  obtain ⟨v7, e8, h⟩ := ob h
  refine v_getX (pc := 11) oF_Mp_36 e8 (show decode (tC tMp_feed) 11 = .ok (.getfield 36, 3) by decide +kernel) ?_
  obtain ⟨v9, e10, h⟩ := ob h
  refine v_getX (pc := 14) oF_Mp_228 e10 (show decode (tC tMp_feed) 14 = .ok (.getfield 228, 3) by decide +kernel) ?_
  refine v_iconst (pc := 17) (v := 1) (show decode (tC tMp_feed) 17 = .ok (.iconst 1, 1) by decide +kernel) (by decide) ?_
  refine v_iload_n (pc := 18) (show decode (tC tMp_feed) 18 = .ok (.iload_n 2, 1) by decide +kernel) 2 rfl rfl ?_
  obtain ⟨S11, e12, h⟩ := ob h
  refine v_iast (pc := 19) e12 (show decode (tC tMp_feed) 19 = .ok (.iastore, 1) by decide +kernel) ?_
  refine v_aload_n (pc := 20) (show decode (tC tMp_feed) 20 = .ok (.aload_n 0, 1) by decide +kernel) 0 rfl rfl ?_
  obtain ⟨v13, e14, h⟩ := ob h
  refine v_getX (pc := 21) oF_Mp_36 e14 (show decode (tC tMp_feed) 21 = .ok (.getfield 36, 3) by decide +kernel) ?_
  obtain ⟨v15, e16, h⟩ := ob h
  refine v_getX (pc := 24) oF_Mp_228 e16 (show decode (tC tMp_feed) 24 = .ok (.getfield 228, 3) by decide +kernel) ?_
  refine v_iconst (pc := 27) (v := 2) (show decode (tC tMp_feed) 27 = .ok (.iconst 2, 1) by decide +kernel) (by decide) ?_
  refine v_iload_n (pc := 28) (show decode (tC tMp_feed) 28 = .ok (.iload_n 3, 1) by decide +kernel) 3 rfl rfl ?_
  obtain ⟨S17, e18, h⟩ := ob h
  refine v_iast (pc := 29) e18 (show decode (tC tMp_feed) 29 = .ok (.iastore, 1) by decide +kernel) ?_
  refine v_aload_n (pc := 30) (show decode (tC tMp_feed) 30 = .ok (.aload_n 0, 1) by decide +kernel) 0 rfl rfl ?_
  obtain ⟨v19, e20, h⟩ := ob h
  refine v_getX (pc := 31) oF_Mp_36 e20 (show decode (tC tMp_feed) 31 = .ok (.getfield 36, 3) by decide +kernel) ?_
  obtain ⟨v21, e22, h⟩ := ob h
  refine v_getX (pc := 34) oF_Mp_228 e22 (show decode (tC tMp_feed) 34 = .ok (.getfield 228, 3) by decide +kernel) ?_
  refine v_iconst (pc := 37) (v := 3) (show decode (tC tMp_feed) 37 = .ok (.iconst 3, 1) by decide +kernel) (by decide) ?_
  refine v_iload (pc := 38) (show decode (tC tMp_feed) 38 = .ok (.iload 4, 2) by decide +kernel) 4 rfl ?_
  obtain ⟨S23, e24, h⟩ := ob h
  refine v_iast (pc := 40) e24 (show decode (tC tMp_feed) 40 = .ok (.iastore, 1) by decide +kernel) ?_
  refine v_aload_n (pc := 41) (show decode (tC tMp_feed) 41 = .ok (.aload_n 0, 1) by decide +kernel) 0 rfl rfl ?_
  obtain ⟨v25, e26, h⟩ := ob h
  refine v_getX (pc := 42) oF_Mp_36 e26 (show decode (tC tMp_feed) 42 = .ok (.getfield 36, 3) by decide +kernel) ?_
  obtain ⟨v27, e28, h⟩ := ob h
  refine v_getX (pc := 45) oF_Mp_228 e28 (show decode (tC tMp_feed) 45 = .ok (.getfield 228, 3) by decide +kernel) ?_
  refine v_iconst (pc := 48) (v := 4) (show decode (tC tMp_feed) 48 = .ok (.iconst 4, 1) by decide +kernel) (by decide) ?_
  refine v_iload (pc := 49) (show decode (tC tMp_feed) 49 = .ok (.iload 5, 2) by decide +kernel) 5 rfl ?_
  obtain ⟨S29, e30, h⟩ := ob h
  refine v_iast (pc := 51) e30 (show decode (tC tMp_feed) 51 = .ok (.iastore, 1) by decide +kernel) ?_
  obtain rfl := Option.some.inj h
  refine v_wide (ce2 := 0) (sl2 := 0) (by decide) (by decide) ?_
  exact v_vret (pc := 52) rfl (show decode (tC tMp_feed) 52 = .ok (.return_, 1) by decide +kernel)
theorem cMp_feed {l : Launch} (hl : l.flags = pinnedFlags ++ [noTraceFlag]) {D : va_G} {dA : Nat → ClassId} {B : Nat} {x0 : Nat} {x1 : Int32} {x2 : Int32} {x3 : Int32} {x4 : Int32} {x5 : Int32} {S : Sx} {X : Sx} (h : fMp_feed x0 x1 x2 x3 x4 x5 S = some X) : Mx l yMp_feed tMp_feed rMp_feed 0 0 D dA B S [.ref x0, .int x1, .int x2, .int x3, .int x4, .int x5] 0 none X :=
  mx_of hl (by decide) rfl rfl (Nat.le_of_ble_eq_true rfl) (fun Γ e1 e2 e3 e4 e5 => by subst e1; subst e3; subst e4; subst e5; exact wMp_feed e2 hl x0 x1 x2 x3 x4 x5 S h)
/-! MatchPipe.end(I)I -/
def yMp_end : MethodName := ⟨"MatchPipe", "end", "(I)I"⟩
def tMp_end : tM := (prog_1_method_16_code, "MatchPipe", 3, "end", some .int, [])
def rMp_end : Room := { frames := 2, cells := 0, slots := 0, locals := 52 }
theorem kMp_end : cOf yMp_end tMp_end ∈ gT := gT_in 567 (by decide +kernel) rfl
theorem iMp_end : Cond.initialized yMp_end.cls ∈ gT := gT_in 55 (by decide +kernel) rfl
theorem mMp_end : okM yMp_end 1 := ⟨by decide, by decide, by unfold nPar; decide +kernel⟩
theorem nMp_end : Cond.instanceMethod yMp_end ∈ gT := gT_in 565 (by decide +kernel) rfl
theorem lMp_end : Cond.selects "MatchPipe" yMp_end yMp_end ∈ gT := gT_in 566 (by decide +kernel) rfl
def fMp_end_25  : Nat → Nat → Int32 → Int32 → Sx → Option (Int32 × Sx)
  | 0, _, _, _, _ => none
  | n + 1, x0, x1, x2, S =>
    if x1 ≤ x2 then
    ((gX S 0 4 x0).bind fun v1 =>
    (ckd S v1 10).bind fun _ =>
    (fBi_zero v1 S).bind fun S5 =>
    (gI S5 0 6 x0).bind fun v6 =>
    (pI S5 0 6 x0 (v6 + x1)).bind fun S8 =>
    (gI S8 0 6 x0).bind fun v10 =>
    some (v10, S8))
    else
    ((gX S 0 5 x0).bind fun v12 =>
    (gI S 0 6 x0).bind fun v14 =>
    (gX S 0 4 x0).bind fun v16 =>
    (ckd S v16 10).bind fun _ =>
    bd2 (fBi_take v16 (8 * x2) 8 S) fun r20 S21 =>
    (ckd S21 v12 10).bind fun _ =>
    (fBi_put v12 (8 * (v14 + x2)) 8 r20 S21).bind fun S24 =>
    fMp_end_25 n x0 x1 (x2 + 1) S24)
set_option maxRecDepth 100000 in
set_option maxHeartbeats 4000000 in
theorem wMp_end_25 {Γ : vG} (hR : gR Γ = rMp_end) (hl : (gl Γ).flags = pinnedFlags ++ [noTraceFlag]) {X : Int32 × Sx}  : ∀ (n : Nat) (x0 : Nat) (x1 : Int32) (x2 : Int32) (S : Sx), fMp_end_25  n x0 x1 x2 S = some X → vV Γ tMp_end (mQ Γ 0 0 0 (some (.int X.1)) X.2) S 0 0 25 [(0, .ref x0), (1, .int x1), (2, .int x2)] [] := by
  intro n
  induction n with
  | zero => intro x0 x1 x2 S h; rw [fMp_end_25] at h; cases h
  | succ n ih =>
    intro x0 x1 x2 S h
    rw [fMp_end_25] at h
    refine v_iload_n (pc := 25) (show decode (tC tMp_end) 25 = .ok (.iload_n 2, 1) by decide +kernel) 2 rfl rfl ?_
    refine v_iload_n (pc := 26) (show decode (tC tMp_end) 26 = .ok (.iload_n 1, 1) by decide +kernel) 1 rfl rfl ?_
    refine v_icmp_ge (pc := 27) 67 (show decode (tC tMp_end) 27 = .ok (.if_icmp .ge 40, 3) by decide +kernel) (by decide) (fun c => ?_) (fun c => ?_)
    · replace h := ite_t c h
      refine v_aload_n (pc := 67) (show decode (tC tMp_end) 67 = .ok (.aload_n 0, 1) by decide +kernel) 0 rfl rfl ?_
      obtain ⟨v1, e2, h⟩ := ob h
      refine v_getX (pc := 68) oF_Mp_36 e2 (show decode (tC tMp_end) 68 = .ok (.getfield 36, 3) by decide +kernel) ?_
      obtain ⟨_, e4, h⟩ := ob h
      obtain ⟨S5, e3, h⟩ := ob h
      refine v_call (pc := 71) (v := none) (y := yBi_zero) (θ' := tBi_zero) (rm := rBi_zero) (av := [.ref v1]) (st := []) (cBi_zero (l := gl Γ) hl e3) kBi_zero iBi_zero (iv_virt (y := yBi_zero) (θ' := tBi_zero) (kd := 10) (As := []) rfl (ckd_of e4) kBi_zero (gT_in 547 (by decide +kernel) rfl) nBi_zero lBi_zero mBi_zero rfl (show decode (tC tMp_end) 71 = .ok (.invokevirtual 56, 3) by decide +kernel)) ⟨by rw [hR]; decide, by rw [hR]; decide, by rw [hR]; decide, by rw [hR]; decide⟩ (Nat.le_of_ble_eq_true rfl) ?_
      refine v_aload_n (pc := 74) (show decode (tC tMp_end) 74 = .ok (.aload_n 0, 1) by decide +kernel) 0 rfl rfl ?_
      refine v_dup (pc := 75) (show decode (tC tMp_end) 75 = .ok (.dup, 1) by decide +kernel) rfl ?_
      obtain ⟨v6, e7, h⟩ := ob h
      refine v_getI (pc := 76) oF_Mp_59 (by decide) e7 (show decode (tC tMp_end) 76 = .ok (.getfield 59, 3) by decide +kernel) ?_
      refine v_iload_n (pc := 79) (show decode (tC tMp_end) 79 = .ok (.iload_n 1, 1) by decide +kernel) 1 rfl rfl ?_
      refine v_iadd (pc := 80) (show decode (tC tMp_end) 80 = .ok (.iadd, 1) by decide +kernel) ?_
      obtain ⟨S8, e9, h⟩ := ob h
      refine v_putI (pc := 81) oF_Mp_59 (fin_ok (kd := 0) (k := 6) (by decide +kernel)) e9 (show decode (tC tMp_end) 81 = .ok (.putfield 59, 3) by decide +kernel) ?_
      refine v_aload_n (pc := 84) (show decode (tC tMp_end) 84 = .ok (.aload_n 0, 1) by decide +kernel) 0 rfl rfl ?_
      obtain ⟨v10, e11, h⟩ := ob h
      refine v_getI (pc := 85) oF_Mp_59 (by decide) e11 (show decode (tC tMp_end) 85 = .ok (.getfield 59, 3) by decide +kernel) ?_
      obtain rfl := Option.some.inj h
      refine v_wide (ce2 := 0) (sl2 := 0) (by decide) (by decide) ?_
      exact v_iret (pc := 88) rfl (show decode (tC tMp_end) 88 = .ok (.ireturn, 1) by decide +kernel)
    · replace h := ite_f c h
      refine v_aload_n (pc := 30) (show decode (tC tMp_end) 30 = .ok (.aload_n 0, 1) by decide +kernel) 0 rfl rfl ?_
      obtain ⟨v12, e13, h⟩ := ob h
      refine v_getX (pc := 31) oF_Mp_40 e13 (show decode (tC tMp_end) 31 = .ok (.getfield 40, 3) by decide +kernel) ?_
      refine v_bipush (pc := 34) (v := 8) (show decode (tC tMp_end) 34 = .ok (.bipush 8, 2) by decide +kernel) (by decide) ?_
      refine v_aload_n (pc := 36) (show decode (tC tMp_end) 36 = .ok (.aload_n 0, 1) by decide +kernel) 0 rfl rfl ?_
      obtain ⟨v14, e15, h⟩ := ob h
      refine v_getI (pc := 37) oF_Mp_59 (by decide) e15 (show decode (tC tMp_end) 37 = .ok (.getfield 59, 3) by decide +kernel) ?_
      refine v_iload_n (pc := 40) (show decode (tC tMp_end) 40 = .ok (.iload_n 2, 1) by decide +kernel) 2 rfl rfl ?_
      refine v_iadd (pc := 41) (show decode (tC tMp_end) 41 = .ok (.iadd, 1) by decide +kernel) ?_
      refine v_imul (pc := 42) (show decode (tC tMp_end) 42 = .ok (.imul, 1) by decide +kernel) ?_
      refine v_bipush (pc := 43) (v := 8) (show decode (tC tMp_end) 43 = .ok (.bipush 8, 2) by decide +kernel) (by decide) ?_
      refine v_aload_n (pc := 45) (show decode (tC tMp_end) 45 = .ok (.aload_n 0, 1) by decide +kernel) 0 rfl rfl ?_
      obtain ⟨v16, e17, h⟩ := ob h
      refine v_getX (pc := 46) oF_Mp_36 e17 (show decode (tC tMp_end) 46 = .ok (.getfield 36, 3) by decide +kernel) ?_
      refine v_bipush (pc := 49) (v := 8) (show decode (tC tMp_end) 49 = .ok (.bipush 8, 2) by decide +kernel) (by decide) ?_
      refine v_iload_n (pc := 51) (show decode (tC tMp_end) 51 = .ok (.iload_n 2, 1) by decide +kernel) 2 rfl rfl ?_
      refine v_imul (pc := 52) (show decode (tC tMp_end) 52 = .ok (.imul, 1) by decide +kernel) ?_
      refine v_bipush (pc := 53) (v := 8) (show decode (tC tMp_end) 53 = .ok (.bipush 8, 2) by decide +kernel) (by decide) ?_
      obtain ⟨_, e19, h⟩ := ob h
      obtain ⟨r20, S21, e18, h⟩ := ob2 h
      refine v_call (pc := 55) (v := (some (.int r20))) (y := yBi_take) (θ' := tBi_take) (rm := rBi_take) (av := [.ref v16, .int (8 * x2), .int 8]) (st := [.int 8, .int (8 * (v14 + x2)), .ref v12]) (cBi_take (l := gl Γ) hl e18) kBi_take iBi_take (iv_virt (y := yBi_take) (θ' := tBi_take) (kd := 10) (As := [.int (8 * x2), .int 8]) rfl (ckd_of e19) kBi_take (gT_in 568 (by decide +kernel) rfl) nBi_take lBi_take mBi_take rfl (show decode (tC tMp_end) 55 = .ok (.invokevirtual 231, 3) by decide +kernel)) ⟨by rw [hR]; decide, by rw [hR]; decide, by rw [hR]; decide, by rw [hR]; decide⟩ (Nat.le_of_ble_eq_true rfl) ?_
      obtain ⟨_, e23, h⟩ := ob h
      obtain ⟨S24, e22, h⟩ := ob h
      refine v_call (pc := 58) (v := none) (y := yBi_put) (θ' := tBi_put) (rm := rBi_put) (av := [.ref v12, .int (8 * (v14 + x2)), .int 8, .int r20]) (st := []) (cBi_put (l := gl Γ) hl e22) kBi_put iBi_put (iv_virt (y := yBi_put) (θ' := tBi_put) (kd := 10) (As := [.int (8 * (v14 + x2)), .int 8, .int r20]) rfl (ckd_of e23) kBi_put (gT_in 581 (by decide +kernel) rfl) nBi_put lBi_put mBi_put rfl (show decode (tC tMp_end) 58 = .ok (.invokevirtual 235, 3) by decide +kernel)) ⟨by rw [hR]; decide, by rw [hR]; decide, by rw [hR]; decide, by rw [hR]; decide⟩ (Nat.le_of_ble_eq_true rfl) ?_
      refine v_iinc (pc := 61) (j := 2) [(2, .int (x2 + 1)), (0, .ref x0), (1, .int x1)] (show decode (tC tMp_end) 61 = .ok (.iinc 2 1, 3) by decide +kernel) rfl rfl (by decide) rfl ?_
      refine v_goto (pc := 64) 25 (show decode (tC tMp_end) 64 = .ok (.goto (-39), 3) by decide +kernel) (by decide) ?_
      refine v_sub [(0, .ref x0), (1, .int x1), (2, .int (x2 + 1))] [1, 2, 0] rfl ?_
      exact ih x0 x1 (x2 + 1) S24 h
def fMp_end (x0 : Nat) (x1 : Int32) (S : Sx) : Option (Int32 × Sx) :=
    if x1 < 0 then
    (some ((-1), S))
    else
    (if (20 : Int32) < x1 then
    (some ((-1), S))
    else
    ((gI S 0 6 x0).bind fun v1 =>
    if (v1 + x1) ≤ 60 then
    (fMp_end_25  fuel x0 x1 0 S)
    else
    (some ((-1), S))))
set_option maxRecDepth 100000 in
set_option maxHeartbeats 4000000 in
theorem wMp_end {Γ : vG} (hR : gR Γ = rMp_end) (hl : (gl Γ).flags = pinnedFlags ++ [noTraceFlag]) (x0 : Nat) (x1 : Int32) (S : Sx) {X : Int32 × Sx} (h : fMp_end x0 x1 S = some X) : vV Γ tMp_end (mQ Γ 0 0 0 (some (.int X.1)) X.2) S 0 0 0 [(0, .ref x0), (1, .int x1)] [] := by
  unfold fMp_end at h
  refine v_iload_n (pc := 0) (show decode (tC tMp_end) 0 = .ok (.iload_n 1, 1) by decide +kernel) 1 rfl rfl ?_
  refine v_if_lt (pc := 1) 21 (show decode (tC tMp_end) 1 = .ok (.ifCond .lt 20, 3) by decide +kernel) (by decide) (fun c => ?_) (fun c => ?_)
  · replace h := ite_t c h
    refine v_iconst (pc := 21) (v := (-1)) (show decode (tC tMp_end) 21 = .ok (.iconst (-1), 1) by decide +kernel) (by decide) ?_
    obtain rfl := Option.some.inj h
    refine v_wide (ce2 := 0) (sl2 := 0) (by decide) (by decide) ?_
    exact v_iret (pc := 22) rfl (show decode (tC tMp_end) 22 = .ok (.ireturn, 1) by decide +kernel)
  · replace h := ite_f c h
    refine v_iload_n (pc := 4) (show decode (tC tMp_end) 4 = .ok (.iload_n 1, 1) by decide +kernel) 1 rfl rfl ?_
    refine v_bipush (pc := 5) (v := 20) (show decode (tC tMp_end) 5 = .ok (.bipush 20, 2) by decide +kernel) (by decide) ?_
    refine v_icmp_gt (pc := 7) 21 (show decode (tC tMp_end) 7 = .ok (.if_icmp .gt 14, 3) by decide +kernel) (by decide) (fun c => ?_) (fun c => ?_)
    · replace h := ite_t c h
      refine v_iconst (pc := 21) (v := (-1)) (show decode (tC tMp_end) 21 = .ok (.iconst (-1), 1) by decide +kernel) (by decide) ?_
      obtain rfl := Option.some.inj h
      refine v_wide (ce2 := 0) (sl2 := 0) (by decide) (by decide) ?_
      exact v_iret (pc := 22) rfl (show decode (tC tMp_end) 22 = .ok (.ireturn, 1) by decide +kernel)
    · replace h := ite_f c h
      refine v_aload_n (pc := 10) (show decode (tC tMp_end) 10 = .ok (.aload_n 0, 1) by decide +kernel) 0 rfl rfl ?_
      obtain ⟨v1, e2, h⟩ := ob h
      refine v_getI (pc := 11) oF_Mp_59 (by decide) e2 (show decode (tC tMp_end) 11 = .ok (.getfield 59, 3) by decide +kernel) ?_
      refine v_iload_n (pc := 14) (show decode (tC tMp_end) 14 = .ok (.iload_n 1, 1) by decide +kernel) 1 rfl rfl ?_
      refine v_iadd (pc := 15) (show decode (tC tMp_end) 15 = .ok (.iadd, 1) by decide +kernel) ?_
      refine v_bipush (pc := 16) (v := 60) (show decode (tC tMp_end) 16 = .ok (.bipush 60, 2) by decide +kernel) (by decide) ?_
      refine v_icmp_le (pc := 18) 23 (show decode (tC tMp_end) 18 = .ok (.if_icmp .le 5, 3) by decide +kernel) (by decide) (fun c => ?_) (fun c => ?_)
      · replace h := ite_t c h
        refine v_iconst (pc := 23) (v := 0) (show decode (tC tMp_end) 23 = .ok (.iconst 0, 1) by decide +kernel) (by decide) ?_
        refine v_istore_n (pc := 24) [(2, .int 0), (0, .ref x0), (1, .int x1)] (show decode (tC tMp_end) 24 = .ok (.istore_n 2, 1) by decide +kernel) rfl (by decide) rfl ?_
        refine v_sub [(0, .ref x0), (1, .int x1), (2, .int 0)] [1, 2, 0] rfl ?_
        exact wMp_end_25 hR hl  fuel x0 x1 0 S h
      · replace h := ite_f c h
        refine v_iconst (pc := 21) (v := (-1)) (show decode (tC tMp_end) 21 = .ok (.iconst (-1), 1) by decide +kernel) (by decide) ?_
        obtain rfl := Option.some.inj h
        refine v_wide (ce2 := 0) (sl2 := 0) (by decide) (by decide) ?_
        exact v_iret (pc := 22) rfl (show decode (tC tMp_end) 22 = .ok (.ireturn, 1) by decide +kernel)
theorem cMp_end {l : Launch} (hl : l.flags = pinnedFlags ++ [noTraceFlag]) {D : va_G} {dA : Nat → ClassId} {B : Nat} {x0 : Nat} {x1 : Int32} {S : Sx} {X : Int32 × Sx} (h : fMp_end x0 x1 S = some X) : Mx l yMp_end tMp_end rMp_end 0 0 D dA B S [.ref x0, .int x1] 0 (some (.int X.1)) X.2 :=
  mx_of hl (by decide) rfl rfl (Nat.le_of_ble_eq_true rfl) (fun Γ e1 e2 e3 e4 e5 => by subst e1; subst e3; subst e4; subst e5; exact wMp_end e2 hl x0 x1 S h)
/-! MatchPipe.key(IIII)V -/
def yMp_key : MethodName := ⟨"MatchPipe", "key", "(IIII)V"⟩
def tMp_key : tM := (prog_1_method_18_code, "MatchPipe", 5, "key", none, [])
def rMp_key : Room := { frames := 1, cells := 0, slots := 0, locals := 24 }
theorem kMp_key : cOf yMp_key tMp_key ∈ gT := gT_in 589 (by decide +kernel) rfl
theorem iMp_key : Cond.initialized yMp_key.cls ∈ gT := gT_in 55 (by decide +kernel) rfl
theorem mMp_key : okM yMp_key 4 := ⟨by decide, by decide, by unfold nPar; decide +kernel⟩
theorem nMp_key : Cond.instanceMethod yMp_key ∈ gT := gT_in 587 (by decide +kernel) rfl
theorem lMp_key : Cond.selects "MatchPipe" yMp_key yMp_key ∈ gT := gT_in 588 (by decide +kernel) rfl
def fMp_key (x0 : Nat) (x1 : Int32) (x2 : Int32) (x3 : Int32) (x4 : Int32) (S : Sx) : Option (Sx) :=
    (gX S 0 3 x0).bind fun v1 =>
    (ckd S v1 5).bind fun _ =>
    (fEn_setKey v1 x1 x2 x3 x4 S).bind fun S5 =>
    some S5
set_option maxRecDepth 100000 in
set_option maxHeartbeats 4000000 in
theorem wMp_key {Γ : vG} (hR : gR Γ = rMp_key) (hl : (gl Γ).flags = pinnedFlags ++ [noTraceFlag]) (x0 : Nat) (x1 : Int32) (x2 : Int32) (x3 : Int32) (x4 : Int32) (S : Sx) {X : Sx} (h : fMp_key x0 x1 x2 x3 x4 S = some X) : vV Γ tMp_key (mQ Γ 0 0 0 none X) S 0 0 0 [(0, .ref x0), (1, .int x1), (2, .int x2), (3, .int x3), (4, .int x4)] [] := by
  unfold fMp_key at h
  refine v_aload_n (pc := 0) (show decode (tC tMp_key) 0 = .ok (.aload_n 0, 1) by decide +kernel) 0 rfl rfl ?_
  obtain ⟨v1, e2, h⟩ := ob h
  refine v_getX (pc := 1) oF_Mp_29 e2 (show decode (tC tMp_key) 1 = .ok (.getfield 29, 3) by decide +kernel) ?_
  refine v_iload_n (pc := 4) (show decode (tC tMp_key) 4 = .ok (.iload_n 1, 1) by decide +kernel) 1 rfl rfl ?_
  refine v_iload_n (pc := 5) (show decode (tC tMp_key) 5 = .ok (.iload_n 2, 1) by decide +kernel) 2 rfl rfl ?_
  refine v_iload_n (pc := 6) (show decode (tC tMp_key) 6 = .ok (.iload_n 3, 1) by decide +kernel) 3 rfl rfl ?_
  refine v_iload (pc := 7) (show decode (tC tMp_key) 7 = .ok (.iload 4, 2) by decide +kernel) 4 rfl ?_
  obtain ⟨_, e4, h⟩ := ob h
  obtain ⟨S5, e3, h⟩ := ob h
  refine v_call (pc := 9) (v := none) (y := yEn_setKey) (θ' := tEn_setKey) (rm := rEn_setKey) (av := [.ref v1, .int x1, .int x2, .int x3, .int x4]) (st := []) (cEn_setKey (l := gl Γ) hl e3) kEn_setKey iEn_setKey (iv_virt (y := yEn_setKey) (θ' := tEn_setKey) (kd := 5) (As := [.int x1, .int x2, .int x3, .int x4]) rfl (ckd_of e4) kEn_setKey (gT_in 543 (by decide +kernel) rfl) nEn_setKey lEn_setKey mEn_setKey rfl (show decode (tC tMp_key) 9 = .ok (.invokevirtual 52, 3) by decide +kernel)) ⟨by rw [hR]; decide, by rw [hR]; decide, by rw [hR]; decide, by rw [hR]; decide⟩ (Nat.le_of_ble_eq_true rfl) ?_
  obtain rfl := Option.some.inj h
  refine v_wide (ce2 := 0) (sl2 := 0) (by decide) (by decide) ?_
  exact v_vret (pc := 12) rfl (show decode (tC tMp_key) 12 = .ok (.return_, 1) by decide +kernel)
theorem cMp_key {l : Launch} (hl : l.flags = pinnedFlags ++ [noTraceFlag]) {D : va_G} {dA : Nat → ClassId} {B : Nat} {x0 : Nat} {x1 : Int32} {x2 : Int32} {x3 : Int32} {x4 : Int32} {S : Sx} {X : Sx} (h : fMp_key x0 x1 x2 x3 x4 S = some X) : Mx l yMp_key tMp_key rMp_key 0 0 D dA B S [.ref x0, .int x1, .int x2, .int x3, .int x4] 0 none X :=
  mx_of hl (by decide) rfl rfl (Nat.le_of_ble_eq_true rfl) (fun Γ e1 e2 e3 e4 e5 => by subst e1; subst e3; subst e4; subst e5; exact wMp_key e2 hl x0 x1 x2 x3 x4 S h)
/-! MatchPipe.out(II)I -/
def yMp_out : MethodName := ⟨"MatchPipe", "out", "(II)I"⟩
def tMp_out : tM := (prog_1_method_22_code, "MatchPipe", 4, "out", some .int, [])
def rMp_out : Room := { frames := 1, cells := 0, slots := 0, locals := 21 }
theorem kMp_out : cOf yMp_out tMp_out ∈ gT := gT_in 593 (by decide +kernel) rfl
theorem iMp_out : Cond.initialized yMp_out.cls ∈ gT := gT_in 55 (by decide +kernel) rfl
theorem mMp_out : okM yMp_out 2 := ⟨by decide, by decide, by unfold nPar; decide +kernel⟩
theorem nMp_out : Cond.instanceMethod yMp_out ∈ gT := gT_in 591 (by decide +kernel) rfl
theorem lMp_out : Cond.selects "MatchPipe" yMp_out yMp_out ∈ gT := gT_in 592 (by decide +kernel) rfl
def fMp_out (x0 : Nat) (x1 : Int32) (x2 : Int32) (S : Sx) : Option (Int32 × Sx) :=
    (gX S 0 0 x0).bind fun v1 =>
    (ckd S v1 8).bind fun _ =>
    bd2 (fLi_remembers v1 x1 S) fun r5 S6 =>
    if r5 = 0 then
    (some ((-1), S6))
    else
    ((gX S6 0 0 x0).bind fun v7 =>
    (ckd S6 v7 8).bind fun _ =>
    bd2 (fLi_placeOf v7 x1 S6) fun r11 S12 =>
    r11.bind fun a13 =>
    if x2 = 0 then
    ((gI S12 9 3 a13).bind fun v15 =>
    some (v15, S12))
    else if x2 = 1 then
    ((gI S12 9 5 a13).bind fun v17 =>
    some (v17, S12))
    else if x2 = 2 then
    ((ckd S12 a13 9).bind fun _ =>
    bd2 (fOp_isWhole a13 S12) fun r21 S22 =>
    if r21 = 0 then
    (some ((-1), S22))
    else
    ((gI S22 9 6 a13).bind fun v23 =>
    some (v23, S22)))
    else if x2 = 3 then
    ((ckd S12 a13 9).bind fun _ =>
    bd2 (fOp_isWhole a13 S12) fun r27 S28 =>
    if r27 = 0 then
    (some ((-1), S28))
    else
    ((gI S28 9 2 a13).bind fun v29 =>
    some (v29, S28)))
    else if x2 = 4 then
    ((gI S12 9 7 a13).bind fun v31 =>
    some (v31, S12))
    else 
    (some ((-1), S12)))
set_option maxRecDepth 100000 in
set_option maxHeartbeats 4000000 in
theorem wMp_out {Γ : vG} (hR : gR Γ = rMp_out) (hl : (gl Γ).flags = pinnedFlags ++ [noTraceFlag]) (x0 : Nat) (x1 : Int32) (x2 : Int32) (S : Sx) {X : Int32 × Sx} (h : fMp_out x0 x1 x2 S = some X) : vV Γ tMp_out (mQ Γ 0 0 0 (some (.int X.1)) X.2) S 0 0 0 [(0, .ref x0), (1, .int x1), (2, .int x2)] [] := by
  unfold fMp_out at h
  refine v_aload_n (pc := 0) (show decode (tC tMp_out) 0 = .ok (.aload_n 0, 1) by decide +kernel) 0 rfl rfl ?_
  obtain ⟨v1, e2, h⟩ := ob h
  refine v_getX (pc := 1) oF_Mp_10 e2 (show decode (tC tMp_out) 1 = .ok (.getfield 10, 3) by decide +kernel) ?_
  refine v_iload_n (pc := 4) (show decode (tC tMp_out) 4 = .ok (.iload_n 1, 1) by decide +kernel) 1 rfl rfl ?_
  obtain ⟨_, e4, h⟩ := ob h
  obtain ⟨r5, S6, e3, h⟩ := ob2 h
  refine v_call (pc := 5) (v := (some (.int r5))) (y := yLi_remembers) (θ' := tLi_remembers) (rm := rLi_remembers) (av := [.ref v1, .int x1]) (st := []) (cLi_remembers (l := gl Γ) hl e3) kLi_remembers iLi_remembers (iv_virt (y := yLi_remembers) (θ' := tLi_remembers) (kd := 8) (As := [.int x1]) rfl (ckd_of e4) kLi_remembers (gT_in 594 (by decide +kernel) rfl) nLi_remembers lLi_remembers mLi_remembers rfl (show decode (tC tMp_out) 5 = .ok (.invokevirtual 281, 3) by decide +kernel)) ⟨by rw [hR]; decide, by rw [hR]; decide, by rw [hR]; decide, by rw [hR]; decide⟩ (Nat.le_of_ble_eq_true rfl) ?_
  refine v_if_ne (pc := 8) 13 (show decode (tC tMp_out) 8 = .ok (.ifCond .ne 5, 3) by decide +kernel) (by decide) (fun c => ?_) (fun c => ?_)
  · replace h := ite_f c h
    refine v_aload_n (pc := 13) (show decode (tC tMp_out) 13 = .ok (.aload_n 0, 1) by decide +kernel) 0 rfl rfl ?_
    obtain ⟨v7, e8, h⟩ := ob h
    refine v_getX (pc := 14) oF_Mp_10 e8 (show decode (tC tMp_out) 14 = .ok (.getfield 10, 3) by decide +kernel) ?_
    refine v_iload_n (pc := 17) (show decode (tC tMp_out) 17 = .ok (.iload_n 1, 1) by decide +kernel) 1 rfl rfl ?_
    obtain ⟨_, e10, h⟩ := ob h
    obtain ⟨r11, S12, e9, h⟩ := ob2 h
    have h9 := ob h
    clear h
    obtain ⟨a13, e14, h⟩ := h9
    subst e14
    refine v_call (pc := 18) (v := (some (.ref a13))) (y := yLi_placeOf) (θ' := tLi_placeOf) (rm := rLi_placeOf) (av := [.ref v7, .int x1]) (st := []) (cLi_placeOf (l := gl Γ) hl e9) kLi_placeOf iLi_placeOf (iv_virt (y := yLi_placeOf) (θ' := tLi_placeOf) (kd := 8) (As := [.int x1]) rfl (ckd_of e10) kLi_placeOf (gT_in 598 (by decide +kernel) rfl) nLi_placeOf lLi_placeOf mLi_placeOf rfl (show decode (tC tMp_out) 18 = .ok (.invokevirtual 284, 3) by decide +kernel)) ⟨by rw [hR]; decide, by rw [hR]; decide, by rw [hR]; decide, by rw [hR]; decide⟩ (Nat.le_of_ble_eq_true rfl) ?_
    refine v_astore_n (pc := 21) [(3, .ref a13), (0, .ref x0), (1, .int x1), (2, .int x2)] (show decode (tC tMp_out) 21 = .ok (.astore_n 3, 1) by decide +kernel) rfl (by decide) rfl ?_
    refine v_iload_n (pc := 22) (show decode (tC tMp_out) 22 = .ok (.iload_n 2, 1) by decide +kernel) 3 rfl rfl ?_
    by_cases c0 : x2 = 0
    · replace h := ite_t c0 h
      refine v_tblIn (pc := 23) (off := 33) 56 (show decode (tC tMp_out) 23 = .ok (.tableswitch 80 0 4 #[33, 38, 43, 59, 75], 33) by decide +kernel) (by rw [c0]; decide) (by rw [c0]; decide) (by rw [c0]; decide) (by decide) ?_
      refine v_aload_n (pc := 56) (show decode (tC tMp_out) 56 = .ok (.aload_n 3, 1) by decide +kernel) 0 rfl rfl ?_
      obtain ⟨v15, e16, h⟩ := ob h
      refine v_getI (pc := 57) oF_Mp_288 (by decide) e16 (show decode (tC tMp_out) 57 = .ok (.getfield 288, 3) by decide +kernel) ?_
      obtain rfl := Option.some.inj h
      refine v_wide (ce2 := 0) (sl2 := 0) (by decide) (by decide) ?_
      exact v_iret (pc := 60) rfl (show decode (tC tMp_out) 60 = .ok (.ireturn, 1) by decide +kernel)
    · replace h := ite_f c0 h
      by_cases c1 : x2 = 1
      · replace h := ite_t c1 h
        refine v_tblIn (pc := 23) (off := 38) 61 (show decode (tC tMp_out) 23 = .ok (.tableswitch 80 0 4 #[33, 38, 43, 59, 75], 33) by decide +kernel) (by rw [c1]; decide) (by rw [c1]; decide) (by rw [c1]; decide) (by decide) ?_
        refine v_aload_n (pc := 61) (show decode (tC tMp_out) 61 = .ok (.aload_n 3, 1) by decide +kernel) 0 rfl rfl ?_
        obtain ⟨v17, e18, h⟩ := ob h
        refine v_getI (pc := 62) oF_Mp_291 (by decide) e18 (show decode (tC tMp_out) 62 = .ok (.getfield 291, 3) by decide +kernel) ?_
        obtain rfl := Option.some.inj h
        refine v_wide (ce2 := 0) (sl2 := 0) (by decide) (by decide) ?_
        exact v_iret (pc := 65) rfl (show decode (tC tMp_out) 65 = .ok (.ireturn, 1) by decide +kernel)
      · replace h := ite_f c1 h
        by_cases c2 : x2 = 2
        · replace h := ite_t c2 h
          refine v_tblIn (pc := 23) (off := 43) 66 (show decode (tC tMp_out) 23 = .ok (.tableswitch 80 0 4 #[33, 38, 43, 59, 75], 33) by decide +kernel) (by rw [c2]; decide) (by rw [c2]; decide) (by rw [c2]; decide) (by decide) ?_
          refine v_aload_n (pc := 66) (show decode (tC tMp_out) 66 = .ok (.aload_n 3, 1) by decide +kernel) 0 rfl rfl ?_
          obtain ⟨_, e20, h⟩ := ob h
          obtain ⟨r21, S22, e19, h⟩ := ob2 h
          refine v_call (pc := 67) (v := (some (.int r21))) (y := yOp_isWhole) (θ' := tOp_isWhole) (rm := rOp_isWhole) (av := [.ref a13]) (st := []) (cOp_isWhole (l := gl Γ) hl e19) kOp_isWhole iOp_isWhole (iv_virt (y := yOp_isWhole) (θ' := tOp_isWhole) (kd := 9) (As := []) rfl (ckd_of e20) kOp_isWhole (gT_in 602 (by decide +kernel) rfl) nOp_isWhole lOp_isWhole mOp_isWhole rfl (show decode (tC tMp_out) 67 = .ok (.invokevirtual 294, 3) by decide +kernel)) ⟨by rw [hR]; decide, by rw [hR]; decide, by rw [hR]; decide, by rw [hR]; decide⟩ (Nat.le_of_ble_eq_true rfl) ?_
          refine v_if_eq (pc := 70) 80 (show decode (tC tMp_out) 70 = .ok (.ifCond .eq 10, 3) by decide +kernel) (by decide) (fun c => ?_) (fun c => ?_)
          · replace h := ite_t c h
            refine v_iconst (pc := 80) (v := (-1)) (show decode (tC tMp_out) 80 = .ok (.iconst (-1), 1) by decide +kernel) (by decide) ?_
            obtain rfl := Option.some.inj h
            refine v_wide (ce2 := 0) (sl2 := 0) (by decide) (by decide) ?_
            exact v_iret (pc := 81) rfl (show decode (tC tMp_out) 81 = .ok (.ireturn, 1) by decide +kernel)
          · replace h := ite_f c h
            refine v_aload_n (pc := 73) (show decode (tC tMp_out) 73 = .ok (.aload_n 3, 1) by decide +kernel) 0 rfl rfl ?_
            obtain ⟨v23, e24, h⟩ := ob h
            refine v_getI (pc := 74) oF_Mp_298 (by decide) e24 (show decode (tC tMp_out) 74 = .ok (.getfield 298, 3) by decide +kernel) ?_
            refine v_goto (pc := 77) 81 (show decode (tC tMp_out) 77 = .ok (.goto 4, 3) by decide +kernel) (by decide) ?_
            obtain rfl := Option.some.inj h
            refine v_wide (ce2 := 0) (sl2 := 0) (by decide) (by decide) ?_
            exact v_iret (pc := 81) rfl (show decode (tC tMp_out) 81 = .ok (.ireturn, 1) by decide +kernel)
        · replace h := ite_f c2 h
          by_cases c3 : x2 = 3
          · replace h := ite_t c3 h
            refine v_tblIn (pc := 23) (off := 59) 82 (show decode (tC tMp_out) 23 = .ok (.tableswitch 80 0 4 #[33, 38, 43, 59, 75], 33) by decide +kernel) (by rw [c3]; decide) (by rw [c3]; decide) (by rw [c3]; decide) (by decide) ?_
            refine v_aload_n (pc := 82) (show decode (tC tMp_out) 82 = .ok (.aload_n 3, 1) by decide +kernel) 0 rfl rfl ?_
            obtain ⟨_, e26, h⟩ := ob h
            obtain ⟨r27, S28, e25, h⟩ := ob2 h
            refine v_call (pc := 83) (v := (some (.int r27))) (y := yOp_isWhole) (θ' := tOp_isWhole) (rm := rOp_isWhole) (av := [.ref a13]) (st := []) (cOp_isWhole (l := gl Γ) hl e25) kOp_isWhole iOp_isWhole (iv_virt (y := yOp_isWhole) (θ' := tOp_isWhole) (kd := 9) (As := []) rfl (ckd_of e26) kOp_isWhole (gT_in 602 (by decide +kernel) rfl) nOp_isWhole lOp_isWhole mOp_isWhole rfl (show decode (tC tMp_out) 83 = .ok (.invokevirtual 294, 3) by decide +kernel)) ⟨by rw [hR]; decide, by rw [hR]; decide, by rw [hR]; decide, by rw [hR]; decide⟩ (Nat.le_of_ble_eq_true rfl) ?_
            refine v_if_eq (pc := 86) 96 (show decode (tC tMp_out) 86 = .ok (.ifCond .eq 10, 3) by decide +kernel) (by decide) (fun c => ?_) (fun c => ?_)
            · replace h := ite_t c h
              refine v_iconst (pc := 96) (v := (-1)) (show decode (tC tMp_out) 96 = .ok (.iconst (-1), 1) by decide +kernel) (by decide) ?_
              obtain rfl := Option.some.inj h
              refine v_wide (ce2 := 0) (sl2 := 0) (by decide) (by decide) ?_
              exact v_iret (pc := 97) rfl (show decode (tC tMp_out) 97 = .ok (.ireturn, 1) by decide +kernel)
            · replace h := ite_f c h
              refine v_aload_n (pc := 89) (show decode (tC tMp_out) 89 = .ok (.aload_n 3, 1) by decide +kernel) 0 rfl rfl ?_
              obtain ⟨v29, e30, h⟩ := ob h
              refine v_getI (pc := 90) oF_Mp_255 (by decide) e30 (show decode (tC tMp_out) 90 = .ok (.getfield 255, 3) by decide +kernel) ?_
              refine v_goto (pc := 93) 97 (show decode (tC tMp_out) 93 = .ok (.goto 4, 3) by decide +kernel) (by decide) ?_
              obtain rfl := Option.some.inj h
              refine v_wide (ce2 := 0) (sl2 := 0) (by decide) (by decide) ?_
              exact v_iret (pc := 97) rfl (show decode (tC tMp_out) 97 = .ok (.ireturn, 1) by decide +kernel)
          · replace h := ite_f c3 h
            by_cases c4 : x2 = 4
            · replace h := ite_t c4 h
              refine v_tblIn (pc := 23) (off := 75) 98 (show decode (tC tMp_out) 23 = .ok (.tableswitch 80 0 4 #[33, 38, 43, 59, 75], 33) by decide +kernel) (by rw [c4]; decide) (by rw [c4]; decide) (by rw [c4]; decide) (by decide) ?_
              refine v_aload_n (pc := 98) (show decode (tC tMp_out) 98 = .ok (.aload_n 3, 1) by decide +kernel) 0 rfl rfl ?_
              obtain ⟨v31, e32, h⟩ := ob h
              refine v_getI (pc := 99) oF_Mp_301 (by decide) e32 (show decode (tC tMp_out) 99 = .ok (.getfield 301, 3) by decide +kernel) ?_
              obtain rfl := Option.some.inj h
              refine v_wide (ce2 := 0) (sl2 := 0) (by decide) (by decide) ?_
              exact v_iret (pc := 102) rfl (show decode (tC tMp_out) 102 = .ok (.ireturn, 1) by decide +kernel)
            · replace h := ite_f c4 h
              refine v_tblOut (pc := 23) 103 (show decode (tC tMp_out) 23 = .ok (.tableswitch 80 0 4 #[33, 38, 43, 59, 75], 33) by decide +kernel) (tbl_out 5 (fun i hi => match i, hi with | 0, _ => by have := toInt_ne c0; exact this | 1, _ => by have := toInt_ne c1; exact this | 2, _ => by have := toInt_ne c2; exact this | 3, _ => by have := toInt_ne c3; exact this | 4, _ => by have := toInt_ne c4; exact this | i + 5, hi => absurd hi (by omega)) (by decide)) (by decide) ?_
              refine v_iconst (pc := 103) (v := (-1)) (show decode (tC tMp_out) 103 = .ok (.iconst (-1), 1) by decide +kernel) (by decide) ?_
              obtain rfl := Option.some.inj h
              refine v_wide (ce2 := 0) (sl2 := 0) (by decide) (by decide) ?_
              exact v_iret (pc := 104) rfl (show decode (tC tMp_out) 104 = .ok (.ireturn, 1) by decide +kernel)
  · replace h := ite_t c h
    refine v_iconst (pc := 11) (v := (-1)) (show decode (tC tMp_out) 11 = .ok (.iconst (-1), 1) by decide +kernel) (by decide) ?_
    obtain rfl := Option.some.inj h
    refine v_wide (ce2 := 0) (sl2 := 0) (by decide) (by decide) ?_
    exact v_iret (pc := 12) rfl (show decode (tC tMp_out) 12 = .ok (.ireturn, 1) by decide +kernel)
theorem cMp_out {l : Launch} (hl : l.flags = pinnedFlags ++ [noTraceFlag]) {D : va_G} {dA : Nat → ClassId} {B : Nat} {x0 : Nat} {x1 : Int32} {x2 : Int32} {S : Sx} {X : Int32 × Sx} (h : fMp_out x0 x1 x2 S = some X) : Mx l yMp_out tMp_out rMp_out 0 0 D dA B S [.ref x0, .int x1, .int x2] 0 (some (.int X.1)) X.2 :=
  mx_of hl (by decide) rfl rfl (Nat.le_of_ble_eq_true rfl) (fun Γ e1 e2 e3 e4 e5 => by subst e1; subst e3; subst e4; subst e5; exact wMp_out e2 hl x0 x1 x2 S h)
/-! MatchPipe.byteAt(II)I -/
def yMp_byteAt : MethodName := ⟨"MatchPipe", "byteAt", "(II)I"⟩
def tMp_byteAt : tM := (prog_1_method_23_code, "MatchPipe", 4, "byteAt", some .int, [])
def rMp_byteAt : Room := { frames := 2, cells := 0, slots := 0, locals := 45 }
theorem kMp_byteAt : cOf yMp_byteAt tMp_byteAt ∈ gT := gT_in 609 (by decide +kernel) rfl
theorem iMp_byteAt : Cond.initialized yMp_byteAt.cls ∈ gT := gT_in 55 (by decide +kernel) rfl
theorem mMp_byteAt : okM yMp_byteAt 2 := ⟨by decide, by decide, by unfold nPar; decide +kernel⟩
theorem nMp_byteAt : Cond.instanceMethod yMp_byteAt ∈ gT := gT_in 607 (by decide +kernel) rfl
theorem lMp_byteAt : Cond.selects "MatchPipe" yMp_byteAt yMp_byteAt ∈ gT := gT_in 608 (by decide +kernel) rfl
def fMp_byteAt (x0 : Nat) (x1 : Int32) (x2 : Int32) (S : Sx) : Option (Int32 × Sx) :=
    (gX S 0 0 x0).bind fun v1 =>
    (ckd S v1 8).bind fun _ =>
    bd2 (fLi_remembers v1 x1 S) fun r5 S6 =>
    if r5 = 0 then
    (some ((-1), S6))
    else
    ((gX S6 0 0 x0).bind fun v7 =>
    (ckd S6 v7 8).bind fun _ =>
    bd2 (fLi_placeOf v7 x1 S6) fun r11 S12 =>
    r11.bind fun a13 =>
    (ckd S12 a13 9).bind fun _ =>
    bd2 (fOp_isWhole a13 S12) fun r17 S18 =>
    if r17 = 0 then
    (some ((-1), S18))
    else
    (if x2 < 0 then
    (some ((-1), S18))
    else
    ((gI S18 9 2 a13).bind fun v19 =>
    if x2 < v19 then
    ((gX S18 9 1 a13).bind fun v21 =>
    (ckd S18 v21 10).bind fun _ =>
    bd2 (fBi_take v21 (8 * x2) 8 S18) fun r25 S26 =>
    some (r25, S26))
    else
    (some ((-1), S18)))))
set_option maxRecDepth 100000 in
set_option maxHeartbeats 4000000 in
theorem wMp_byteAt {Γ : vG} (hR : gR Γ = rMp_byteAt) (hl : (gl Γ).flags = pinnedFlags ++ [noTraceFlag]) (x0 : Nat) (x1 : Int32) (x2 : Int32) (S : Sx) {X : Int32 × Sx} (h : fMp_byteAt x0 x1 x2 S = some X) : vV Γ tMp_byteAt (mQ Γ 0 0 0 (some (.int X.1)) X.2) S 0 0 0 [(0, .ref x0), (1, .int x1), (2, .int x2)] [] := by
  unfold fMp_byteAt at h
  refine v_aload_n (pc := 0) (show decode (tC tMp_byteAt) 0 = .ok (.aload_n 0, 1) by decide +kernel) 0 rfl rfl ?_
  obtain ⟨v1, e2, h⟩ := ob h
  refine v_getX (pc := 1) oF_Mp_10 e2 (show decode (tC tMp_byteAt) 1 = .ok (.getfield 10, 3) by decide +kernel) ?_
  refine v_iload_n (pc := 4) (show decode (tC tMp_byteAt) 4 = .ok (.iload_n 1, 1) by decide +kernel) 1 rfl rfl ?_
  obtain ⟨_, e4, h⟩ := ob h
  obtain ⟨r5, S6, e3, h⟩ := ob2 h
  refine v_call (pc := 5) (v := (some (.int r5))) (y := yLi_remembers) (θ' := tLi_remembers) (rm := rLi_remembers) (av := [.ref v1, .int x1]) (st := []) (cLi_remembers (l := gl Γ) hl e3) kLi_remembers iLi_remembers (iv_virt (y := yLi_remembers) (θ' := tLi_remembers) (kd := 8) (As := [.int x1]) rfl (ckd_of e4) kLi_remembers (gT_in 594 (by decide +kernel) rfl) nLi_remembers lLi_remembers mLi_remembers rfl (show decode (tC tMp_byteAt) 5 = .ok (.invokevirtual 281, 3) by decide +kernel)) ⟨by rw [hR]; decide, by rw [hR]; decide, by rw [hR]; decide, by rw [hR]; decide⟩ (Nat.le_of_ble_eq_true rfl) ?_
  refine v_if_ne (pc := 8) 13 (show decode (tC tMp_byteAt) 8 = .ok (.ifCond .ne 5, 3) by decide +kernel) (by decide) (fun c => ?_) (fun c => ?_)
  · replace h := ite_f c h
    refine v_aload_n (pc := 13) (show decode (tC tMp_byteAt) 13 = .ok (.aload_n 0, 1) by decide +kernel) 0 rfl rfl ?_
    obtain ⟨v7, e8, h⟩ := ob h
    refine v_getX (pc := 14) oF_Mp_10 e8 (show decode (tC tMp_byteAt) 14 = .ok (.getfield 10, 3) by decide +kernel) ?_
    refine v_iload_n (pc := 17) (show decode (tC tMp_byteAt) 17 = .ok (.iload_n 1, 1) by decide +kernel) 1 rfl rfl ?_
    obtain ⟨_, e10, h⟩ := ob h
    obtain ⟨r11, S12, e9, h⟩ := ob2 h
    have h9 := ob h
    clear h
    obtain ⟨a13, e14, h⟩ := h9
    subst e14
    refine v_call (pc := 18) (v := (some (.ref a13))) (y := yLi_placeOf) (θ' := tLi_placeOf) (rm := rLi_placeOf) (av := [.ref v7, .int x1]) (st := []) (cLi_placeOf (l := gl Γ) hl e9) kLi_placeOf iLi_placeOf (iv_virt (y := yLi_placeOf) (θ' := tLi_placeOf) (kd := 8) (As := [.int x1]) rfl (ckd_of e10) kLi_placeOf (gT_in 598 (by decide +kernel) rfl) nLi_placeOf lLi_placeOf mLi_placeOf rfl (show decode (tC tMp_byteAt) 18 = .ok (.invokevirtual 284, 3) by decide +kernel)) ⟨by rw [hR]; decide, by rw [hR]; decide, by rw [hR]; decide, by rw [hR]; decide⟩ (Nat.le_of_ble_eq_true rfl) ?_
    refine v_astore_n (pc := 21) [(3, .ref a13), (0, .ref x0), (1, .int x1), (2, .int x2)] (show decode (tC tMp_byteAt) 21 = .ok (.astore_n 3, 1) by decide +kernel) rfl (by decide) rfl ?_
    refine v_aload_n (pc := 22) (show decode (tC tMp_byteAt) 22 = .ok (.aload_n 3, 1) by decide +kernel) 0 rfl rfl ?_
    obtain ⟨_, e16, h⟩ := ob h
    obtain ⟨r17, S18, e15, h⟩ := ob2 h
    refine v_call (pc := 23) (v := (some (.int r17))) (y := yOp_isWhole) (θ' := tOp_isWhole) (rm := rOp_isWhole) (av := [.ref a13]) (st := []) (cOp_isWhole (l := gl Γ) hl e15) kOp_isWhole iOp_isWhole (iv_virt (y := yOp_isWhole) (θ' := tOp_isWhole) (kd := 9) (As := []) rfl (ckd_of e16) kOp_isWhole (gT_in 602 (by decide +kernel) rfl) nOp_isWhole lOp_isWhole mOp_isWhole rfl (show decode (tC tMp_byteAt) 23 = .ok (.invokevirtual 294, 3) by decide +kernel)) ⟨by rw [hR]; decide, by rw [hR]; decide, by rw [hR]; decide, by rw [hR]; decide⟩ (Nat.le_of_ble_eq_true rfl) ?_
    refine v_if_eq (pc := 26) 41 (show decode (tC tMp_byteAt) 26 = .ok (.ifCond .eq 15, 3) by decide +kernel) (by decide) (fun c => ?_) (fun c => ?_)
    · replace h := ite_t c h
      refine v_iconst (pc := 41) (v := (-1)) (show decode (tC tMp_byteAt) 41 = .ok (.iconst (-1), 1) by decide +kernel) (by decide) ?_
      obtain rfl := Option.some.inj h
      refine v_wide (ce2 := 0) (sl2 := 0) (by decide) (by decide) ?_
      exact v_iret (pc := 42) rfl (show decode (tC tMp_byteAt) 42 = .ok (.ireturn, 1) by decide +kernel)
    · replace h := ite_f c h
      refine v_iload_n (pc := 29) (show decode (tC tMp_byteAt) 29 = .ok (.iload_n 2, 1) by decide +kernel) 3 rfl rfl ?_
      refine v_if_lt (pc := 30) 41 (show decode (tC tMp_byteAt) 30 = .ok (.ifCond .lt 11, 3) by decide +kernel) (by decide) (fun c => ?_) (fun c => ?_)
      · replace h := ite_t c h
        refine v_iconst (pc := 41) (v := (-1)) (show decode (tC tMp_byteAt) 41 = .ok (.iconst (-1), 1) by decide +kernel) (by decide) ?_
        obtain rfl := Option.some.inj h
        refine v_wide (ce2 := 0) (sl2 := 0) (by decide) (by decide) ?_
        exact v_iret (pc := 42) rfl (show decode (tC tMp_byteAt) 42 = .ok (.ireturn, 1) by decide +kernel)
      · replace h := ite_f c h
        refine v_iload_n (pc := 33) (show decode (tC tMp_byteAt) 33 = .ok (.iload_n 2, 1) by decide +kernel) 3 rfl rfl ?_
        refine v_aload_n (pc := 34) (show decode (tC tMp_byteAt) 34 = .ok (.aload_n 3, 1) by decide +kernel) 0 rfl rfl ?_
        obtain ⟨v19, e20, h⟩ := ob h
        refine v_getI (pc := 35) oF_Mp_255 (by decide) e20 (show decode (tC tMp_byteAt) 35 = .ok (.getfield 255, 3) by decide +kernel) ?_
        refine v_icmp_lt (pc := 38) 43 (show decode (tC tMp_byteAt) 38 = .ok (.if_icmp .lt 5, 3) by decide +kernel) (by decide) (fun c => ?_) (fun c => ?_)
        · replace h := ite_t c h
          refine v_aload_n (pc := 43) (show decode (tC tMp_byteAt) 43 = .ok (.aload_n 3, 1) by decide +kernel) 0 rfl rfl ?_
          obtain ⟨v21, e22, h⟩ := ob h
          refine v_getX (pc := 44) oF_Mp_248 e22 (show decode (tC tMp_byteAt) 44 = .ok (.getfield 248, 3) by decide +kernel) ?_
          refine v_bipush (pc := 47) (v := 8) (show decode (tC tMp_byteAt) 47 = .ok (.bipush 8, 2) by decide +kernel) (by decide) ?_
          refine v_iload_n (pc := 49) (show decode (tC tMp_byteAt) 49 = .ok (.iload_n 2, 1) by decide +kernel) 3 rfl rfl ?_
          refine v_imul (pc := 50) (show decode (tC tMp_byteAt) 50 = .ok (.imul, 1) by decide +kernel) ?_
          refine v_bipush (pc := 51) (v := 8) (show decode (tC tMp_byteAt) 51 = .ok (.bipush 8, 2) by decide +kernel) (by decide) ?_
          obtain ⟨_, e24, h⟩ := ob h
          obtain ⟨r25, S26, e23, h⟩ := ob2 h
          refine v_call (pc := 53) (v := (some (.int r25))) (y := yBi_take) (θ' := tBi_take) (rm := rBi_take) (av := [.ref v21, .int (8 * x2), .int 8]) (st := []) (cBi_take (l := gl Γ) hl e23) kBi_take iBi_take (iv_virt (y := yBi_take) (θ' := tBi_take) (kd := 10) (As := [.int (8 * x2), .int 8]) rfl (ckd_of e24) kBi_take (gT_in 568 (by decide +kernel) rfl) nBi_take lBi_take mBi_take rfl (show decode (tC tMp_byteAt) 53 = .ok (.invokevirtual 231, 3) by decide +kernel)) ⟨by rw [hR]; decide, by rw [hR]; decide, by rw [hR]; decide, by rw [hR]; decide⟩ (Nat.le_of_ble_eq_true rfl) ?_
          obtain rfl := Option.some.inj h
          refine v_wide (ce2 := 0) (sl2 := 0) (by decide) (by decide) ?_
          exact v_iret (pc := 56) rfl (show decode (tC tMp_byteAt) 56 = .ok (.ireturn, 1) by decide +kernel)
        · replace h := ite_f c h
          refine v_iconst (pc := 41) (v := (-1)) (show decode (tC tMp_byteAt) 41 = .ok (.iconst (-1), 1) by decide +kernel) (by decide) ?_
          obtain rfl := Option.some.inj h
          refine v_wide (ce2 := 0) (sl2 := 0) (by decide) (by decide) ?_
          exact v_iret (pc := 42) rfl (show decode (tC tMp_byteAt) 42 = .ok (.ireturn, 1) by decide +kernel)
  · replace h := ite_t c h
    refine v_iconst (pc := 11) (v := (-1)) (show decode (tC tMp_byteAt) 11 = .ok (.iconst (-1), 1) by decide +kernel) (by decide) ?_
    obtain rfl := Option.some.inj h
    refine v_wide (ce2 := 0) (sl2 := 0) (by decide) (by decide) ?_
    exact v_iret (pc := 12) rfl (show decode (tC tMp_byteAt) 12 = .ok (.ireturn, 1) by decide +kernel)
theorem cMp_byteAt {l : Launch} (hl : l.flags = pinnedFlags ++ [noTraceFlag]) {D : va_G} {dA : Nat → ClassId} {B : Nat} {x0 : Nat} {x1 : Int32} {x2 : Int32} {S : Sx} {X : Int32 × Sx} (h : fMp_byteAt x0 x1 x2 S = some X) : Mx l yMp_byteAt tMp_byteAt rMp_byteAt 0 0 D dA B S [.ref x0, .int x1, .int x2] 0 (some (.int X.1)) X.2 :=
  mx_of hl (by decide) rfl rfl (Nat.le_of_ble_eq_true rfl) (fun Γ e1 e2 e3 e4 e5 => by subst e1; subst e3; subst e4; subst e5; exact wMp_byteAt e2 hl x0 x1 x2 S h)
/-! MatchPipe.count(I)I -/
def yMp_count : MethodName := ⟨"MatchPipe", "count", "(I)I"⟩
def tMp_count : tM := (prog_1_method_26_code, "MatchPipe", 2, "count", some .int, [])
def rMp_count : Room := { frames := 1, cells := 0, slots := 0, locals := 20 }
theorem kMp_count : cOf yMp_count tMp_count ∈ gT := gT_in 613 (by decide +kernel) rfl
theorem iMp_count : Cond.initialized yMp_count.cls ∈ gT := gT_in 55 (by decide +kernel) rfl
theorem mMp_count : okM yMp_count 1 := ⟨by decide, by decide, by unfold nPar; decide +kernel⟩
theorem nMp_count : Cond.instanceMethod yMp_count ∈ gT := gT_in 611 (by decide +kernel) rfl
theorem lMp_count : Cond.selects "MatchPipe" yMp_count yMp_count ∈ gT := gT_in 612 (by decide +kernel) rfl
def fMp_count (x0 : Nat) (x1 : Int32) (S : Sx) : Option (Int32 × Sx) :=
    if x1 = 0 then
    ((gX S 0 0 x0).bind fun v1 =>
    (gI S 8 6 v1).bind fun v3 =>
    some (v3, S))
    else if x1 = 1 then
    ((gX S 0 0 x0).bind fun v5 =>
    (ckd S v5 8).bind fun _ =>
    bd2 (fLi_inLine v5 S) fun r9 S10 =>
    some (r9, S10))
    else if x1 = 2 then
    ((gX S 0 0 x0).bind fun v11 =>
    (ckd S v11 8).bind fun _ =>
    bd2 (fLi_inStages v11 S) fun r15 S16 =>
    some (r15, S16))
    else if x1 = 3 then
    ((gX S 0 0 x0).bind fun v17 =>
    (gI S 8 8 v17).bind fun v19 =>
    some (v19, S))
    else if x1 = 4 then
    ((gX S 0 0 x0).bind fun v21 =>
    (gI S 8 9 v21).bind fun v23 =>
    some (v23, S))
    else if x1 = 5 then
    ((gX S 0 2 x0).bind fun v25 =>
    (gI S 7 3 v25).bind fun v27 =>
    if v27 = 0 then
    (some (0, S))
    else
    ((gX S 0 2 x0).bind fun v29 =>
    (gI S 7 4 v29).bind fun v31 =>
    some (v31, S)))
    else 
    (some ((-1), S))
set_option maxRecDepth 100000 in
set_option maxHeartbeats 4000000 in
theorem wMp_count {Γ : vG} (hR : gR Γ = rMp_count) (hl : (gl Γ).flags = pinnedFlags ++ [noTraceFlag]) (x0 : Nat) (x1 : Int32) (S : Sx) {X : Int32 × Sx} (h : fMp_count x0 x1 S = some X) : vV Γ tMp_count (mQ Γ 0 0 0 (some (.int X.1)) X.2) S 0 0 0 [(0, .ref x0), (1, .int x1)] [] := by
  unfold fMp_count at h
  refine v_iload_n (pc := 0) (show decode (tC tMp_count) 0 = .ok (.iload_n 1, 1) by decide +kernel) 1 rfl rfl ?_
  by_cases c0 : x1 = 0
  · replace h := ite_t c0 h
    refine v_tblIn (pc := 1) (off := 39) 40 (show decode (tC tMp_count) 1 = .ok (.tableswitch 101 0 5 #[39, 47, 55, 63, 71, 79], 39) by decide +kernel) (by rw [c0]; decide) (by rw [c0]; decide) (by rw [c0]; decide) (by decide) ?_
    refine v_aload_n (pc := 40) (show decode (tC tMp_count) 40 = .ok (.aload_n 0, 1) by decide +kernel) 0 rfl rfl ?_
    obtain ⟨v1, e2, h⟩ := ob h
    refine v_getX (pc := 41) oF_Mp_10 e2 (show decode (tC tMp_count) 41 = .ok (.getfield 10, 3) by decide +kernel) ?_
    obtain ⟨v3, e4, h⟩ := ob h
    refine v_getI (pc := 44) oF_Mp_258 (by decide) e4 (show decode (tC tMp_count) 44 = .ok (.getfield 258, 3) by decide +kernel) ?_
    obtain rfl := Option.some.inj h
    refine v_wide (ce2 := 0) (sl2 := 0) (by decide) (by decide) ?_
    exact v_iret (pc := 47) rfl (show decode (tC tMp_count) 47 = .ok (.ireturn, 1) by decide +kernel)
  · replace h := ite_f c0 h
    by_cases c1 : x1 = 1
    · replace h := ite_t c1 h
      refine v_tblIn (pc := 1) (off := 47) 48 (show decode (tC tMp_count) 1 = .ok (.tableswitch 101 0 5 #[39, 47, 55, 63, 71, 79], 39) by decide +kernel) (by rw [c1]; decide) (by rw [c1]; decide) (by rw [c1]; decide) (by decide) ?_
      refine v_aload_n (pc := 48) (show decode (tC tMp_count) 48 = .ok (.aload_n 0, 1) by decide +kernel) 0 rfl rfl ?_
      obtain ⟨v5, e6, h⟩ := ob h
      refine v_getX (pc := 49) oF_Mp_10 e6 (show decode (tC tMp_count) 49 = .ok (.getfield 10, 3) by decide +kernel) ?_
      obtain ⟨_, e8, h⟩ := ob h
      obtain ⟨r9, S10, e7, h⟩ := ob2 h
      refine v_call (pc := 52) (v := (some (.int r9))) (y := yLi_inLine) (θ' := tLi_inLine) (rm := rLi_inLine) (av := [.ref v5]) (st := []) (cLi_inLine (l := gl Γ) hl e7) kLi_inLine iLi_inLine (iv_virt (y := yLi_inLine) (θ' := tLi_inLine) (kd := 8) (As := []) rfl (ckd_of e8) kLi_inLine (gT_in 614 (by decide +kernel) rfl) nLi_inLine lLi_inLine mLi_inLine rfl (show decode (tC tMp_count) 52 = .ok (.invokevirtual 316, 3) by decide +kernel)) ⟨by rw [hR]; decide, by rw [hR]; decide, by rw [hR]; decide, by rw [hR]; decide⟩ (Nat.le_of_ble_eq_true rfl) ?_
      obtain rfl := Option.some.inj h
      refine v_wide (ce2 := 0) (sl2 := 0) (by decide) (by decide) ?_
      exact v_iret (pc := 55) rfl (show decode (tC tMp_count) 55 = .ok (.ireturn, 1) by decide +kernel)
    · replace h := ite_f c1 h
      by_cases c2 : x1 = 2
      · replace h := ite_t c2 h
        refine v_tblIn (pc := 1) (off := 55) 56 (show decode (tC tMp_count) 1 = .ok (.tableswitch 101 0 5 #[39, 47, 55, 63, 71, 79], 39) by decide +kernel) (by rw [c2]; decide) (by rw [c2]; decide) (by rw [c2]; decide) (by decide) ?_
        refine v_aload_n (pc := 56) (show decode (tC tMp_count) 56 = .ok (.aload_n 0, 1) by decide +kernel) 0 rfl rfl ?_
        obtain ⟨v11, e12, h⟩ := ob h
        refine v_getX (pc := 57) oF_Mp_10 e12 (show decode (tC tMp_count) 57 = .ok (.getfield 10, 3) by decide +kernel) ?_
        obtain ⟨_, e14, h⟩ := ob h
        obtain ⟨r15, S16, e13, h⟩ := ob2 h
        refine v_call (pc := 60) (v := (some (.int r15))) (y := yLi_inStages) (θ' := tLi_inStages) (rm := rLi_inStages) (av := [.ref v11]) (st := []) (cLi_inStages (l := gl Γ) hl e13) kLi_inStages iLi_inStages (iv_virt (y := yLi_inStages) (θ' := tLi_inStages) (kd := 8) (As := []) rfl (ckd_of e14) kLi_inStages (gT_in 618 (by decide +kernel) rfl) nLi_inStages lLi_inStages mLi_inStages rfl (show decode (tC tMp_count) 60 = .ok (.invokevirtual 320, 3) by decide +kernel)) ⟨by rw [hR]; decide, by rw [hR]; decide, by rw [hR]; decide, by rw [hR]; decide⟩ (Nat.le_of_ble_eq_true rfl) ?_
        obtain rfl := Option.some.inj h
        refine v_wide (ce2 := 0) (sl2 := 0) (by decide) (by decide) ?_
        exact v_iret (pc := 63) rfl (show decode (tC tMp_count) 63 = .ok (.ireturn, 1) by decide +kernel)
      · replace h := ite_f c2 h
        by_cases c3 : x1 = 3
        · replace h := ite_t c3 h
          refine v_tblIn (pc := 1) (off := 63) 64 (show decode (tC tMp_count) 1 = .ok (.tableswitch 101 0 5 #[39, 47, 55, 63, 71, 79], 39) by decide +kernel) (by rw [c3]; decide) (by rw [c3]; decide) (by rw [c3]; decide) (by decide) ?_
          refine v_aload_n (pc := 64) (show decode (tC tMp_count) 64 = .ok (.aload_n 0, 1) by decide +kernel) 0 rfl rfl ?_
          obtain ⟨v17, e18, h⟩ := ob h
          refine v_getX (pc := 65) oF_Mp_10 e18 (show decode (tC tMp_count) 65 = .ok (.getfield 10, 3) by decide +kernel) ?_
          obtain ⟨v19, e20, h⟩ := ob h
          refine v_getI (pc := 68) oF_Mp_275 (by decide) e20 (show decode (tC tMp_count) 68 = .ok (.getfield 275, 3) by decide +kernel) ?_
          obtain rfl := Option.some.inj h
          refine v_wide (ce2 := 0) (sl2 := 0) (by decide) (by decide) ?_
          exact v_iret (pc := 71) rfl (show decode (tC tMp_count) 71 = .ok (.ireturn, 1) by decide +kernel)
        · replace h := ite_f c3 h
          by_cases c4 : x1 = 4
          · replace h := ite_t c4 h
            refine v_tblIn (pc := 1) (off := 71) 72 (show decode (tC tMp_count) 1 = .ok (.tableswitch 101 0 5 #[39, 47, 55, 63, 71, 79], 39) by decide +kernel) (by rw [c4]; decide) (by rw [c4]; decide) (by rw [c4]; decide) (by decide) ?_
            refine v_aload_n (pc := 72) (show decode (tC tMp_count) 72 = .ok (.aload_n 0, 1) by decide +kernel) 0 rfl rfl ?_
            obtain ⟨v21, e22, h⟩ := ob h
            refine v_getX (pc := 73) oF_Mp_10 e22 (show decode (tC tMp_count) 73 = .ok (.getfield 10, 3) by decide +kernel) ?_
            obtain ⟨v23, e24, h⟩ := ob h
            refine v_getI (pc := 76) oF_Mp_323 (by decide) e24 (show decode (tC tMp_count) 76 = .ok (.getfield 323, 3) by decide +kernel) ?_
            obtain rfl := Option.some.inj h
            refine v_wide (ce2 := 0) (sl2 := 0) (by decide) (by decide) ?_
            exact v_iret (pc := 79) rfl (show decode (tC tMp_count) 79 = .ok (.ireturn, 1) by decide +kernel)
          · replace h := ite_f c4 h
            by_cases c5 : x1 = 5
            · replace h := ite_t c5 h
              refine v_tblIn (pc := 1) (off := 79) 80 (show decode (tC tMp_count) 1 = .ok (.tableswitch 101 0 5 #[39, 47, 55, 63, 71, 79], 39) by decide +kernel) (by rw [c5]; decide) (by rw [c5]; decide) (by rw [c5]; decide) (by decide) ?_
              refine v_aload_n (pc := 80) (show decode (tC tMp_count) 80 = .ok (.aload_n 0, 1) by decide +kernel) 0 rfl rfl ?_
              obtain ⟨v25, e26, h⟩ := ob h
              refine v_getX (pc := 81) oF_Mp_25 e26 (show decode (tC tMp_count) 81 = .ok (.getfield 25, 3) by decide +kernel) ?_
              obtain ⟨v27, e28, h⟩ := ob h
              refine v_getI (pc := 84) oF_Mp_210 (by decide) e28 (show decode (tC tMp_count) 84 = .ok (.getfield 210, 3) by decide +kernel) ?_
              refine v_if_eq (pc := 87) 100 (show decode (tC tMp_count) 87 = .ok (.ifCond .eq 13, 3) by decide +kernel) (by decide) (fun c => ?_) (fun c => ?_)
              · replace h := ite_t c h
                refine v_iconst (pc := 100) (v := 0) (show decode (tC tMp_count) 100 = .ok (.iconst 0, 1) by decide +kernel) (by decide) ?_
                obtain rfl := Option.some.inj h
                refine v_wide (ce2 := 0) (sl2 := 0) (by decide) (by decide) ?_
                exact v_iret (pc := 101) rfl (show decode (tC tMp_count) 101 = .ok (.ireturn, 1) by decide +kernel)
              · replace h := ite_f c h
                refine v_aload_n (pc := 90) (show decode (tC tMp_count) 90 = .ok (.aload_n 0, 1) by decide +kernel) 0 rfl rfl ?_
                obtain ⟨v29, e30, h⟩ := ob h
                refine v_getX (pc := 91) oF_Mp_25 e30 (show decode (tC tMp_count) 91 = .ok (.getfield 25, 3) by decide +kernel) ?_
                obtain ⟨v31, e32, h⟩ := ob h
                refine v_getI (pc := 94) oF_Mp_216 (by decide) e32 (show decode (tC tMp_count) 94 = .ok (.getfield 216, 3) by decide +kernel) ?_
                refine v_goto (pc := 97) 101 (show decode (tC tMp_count) 97 = .ok (.goto 4, 3) by decide +kernel) (by decide) ?_
                obtain rfl := Option.some.inj h
                refine v_wide (ce2 := 0) (sl2 := 0) (by decide) (by decide) ?_
                exact v_iret (pc := 101) rfl (show decode (tC tMp_count) 101 = .ok (.ireturn, 1) by decide +kernel)
            · replace h := ite_f c5 h
              refine v_tblOut (pc := 1) 102 (show decode (tC tMp_count) 1 = .ok (.tableswitch 101 0 5 #[39, 47, 55, 63, 71, 79], 39) by decide +kernel) (tbl_out 6 (fun i hi => match i, hi with | 0, _ => by have := toInt_ne c0; exact this | 1, _ => by have := toInt_ne c1; exact this | 2, _ => by have := toInt_ne c2; exact this | 3, _ => by have := toInt_ne c3; exact this | 4, _ => by have := toInt_ne c4; exact this | 5, _ => by have := toInt_ne c5; exact this | i + 6, hi => absurd hi (by omega)) (by decide)) (by decide) ?_
              refine v_iconst (pc := 102) (v := (-1)) (show decode (tC tMp_count) 102 = .ok (.iconst (-1), 1) by decide +kernel) (by decide) ?_
              obtain rfl := Option.some.inj h
              refine v_wide (ce2 := 0) (sl2 := 0) (by decide) (by decide) ?_
              exact v_iret (pc := 103) rfl (show decode (tC tMp_count) 103 = .ok (.ireturn, 1) by decide +kernel)
theorem cMp_count {l : Launch} (hl : l.flags = pinnedFlags ++ [noTraceFlag]) {D : va_G} {dA : Nat → ClassId} {B : Nat} {x0 : Nat} {x1 : Int32} {S : Sx} {X : Int32 × Sx} (h : fMp_count x0 x1 S = some X) : Mx l yMp_count tMp_count rMp_count 0 0 D dA B S [.ref x0, .int x1] 0 (some (.int X.1)) X.2 :=
  mx_of hl (by decide) rfl rfl (Nat.le_of_ble_eq_true rfl) (fun Γ e1 e2 e3 e4 e5 => by subst e1; subst e3; subst e4; subst e5; exact wMp_count e2 hl x0 x1 S h)
/-! MatchPipe.refuseIfLaid()V -/
def yMp_refuseIfLaid : MethodName := ⟨"MatchPipe", "refuseIfLaid", "()V"⟩
def tMp_refuseIfLaid : tM := (prog_1_method_27_code, "MatchPipe", 1, "refuseIfLaid", none, [])
def rMp_refuseIfLaid : Room := { frames := 6, cells := 1, slots := 6, locals := 110 }
theorem kMp_refuseIfLaid : cOf yMp_refuseIfLaid tMp_refuseIfLaid ∈ gT := gT_in 706 (by decide +kernel) rfl
theorem iMp_refuseIfLaid : Cond.initialized yMp_refuseIfLaid.cls ∈ gT := gT_in 55 (by decide +kernel) rfl
theorem mMp_refuseIfLaid : okM yMp_refuseIfLaid 0 := ⟨by decide, by decide, by unfold nPar; decide +kernel⟩
theorem nMp_refuseIfLaid : Cond.instanceMethod yMp_refuseIfLaid ∈ gT := gT_in 705 (by decide +kernel) rfl
theorem lMp_refuseIfLaid : Cond.selects "MatchPipe" yMp_refuseIfLaid yMp_refuseIfLaid ∈ gT := gT_in 4 (by decide +kernel) rfl
def fMp_refuseIfLaid (x0 : Nat) (S : Sx) : Option (Nat × Int32 × Sx) :=
    (gX S 0 2 x0).bind fun v1 =>
    (gI S 7 3 v1).bind fun v3 =>
    if v3 = 0 then
    (some (0, 0, S))
    else
    (some (2, 0, nx S))
set_option maxRecDepth 100000 in
set_option maxHeartbeats 4000000 in
theorem wMp_refuseIfLaid {Γ : vG} (hR : gR Γ = rMp_refuseIfLaid) (hl : (gl Γ).flags = pinnedFlags ++ [noTraceFlag]) (x0 : Nat) (S : Sx) {X : Nat × Int32 × Sx} (h : fMp_refuseIfLaid x0 S = some X) : vV Γ tMp_refuseIfLaid (mQ Γ (if X.1 = 0 then 0 else 1) (if X.1 = 0 then 0 else 6) X.1 none X.2.2) S 0 0 0 [(0, .ref x0)] [] := by
  unfold fMp_refuseIfLaid at h
  refine v_aload_n (pc := 0) (show decode (tC tMp_refuseIfLaid) 0 = .ok (.aload_n 0, 1) by decide +kernel) 0 rfl rfl ?_
  obtain ⟨v1, e2, h⟩ := ob h
  refine v_getX (pc := 1) oF_Mp_25 e2 (show decode (tC tMp_refuseIfLaid) 1 = .ok (.getfield 25, 3) by decide +kernel) ?_
  obtain ⟨v3, e4, h⟩ := ob h
  refine v_getI (pc := 4) oF_Mp_210 (by decide) e4 (show decode (tC tMp_refuseIfLaid) 4 = .ok (.getfield 210, 3) by decide +kernel) ?_
  refine v_if_eq (pc := 7) 21 (show decode (tC tMp_refuseIfLaid) 7 = .ok (.ifCond .eq 14, 3) by decide +kernel) (by decide) (fun c => ?_) (fun c => ?_)
  · replace h := ite_t c h
    obtain rfl := Option.some.inj h
    refine v_wide (ce2 := 0) (sl2 := 0) (by decide) (by decide) ?_
    exact v_vret (pc := 21) rfl (show decode (tC tMp_refuseIfLaid) 21 = .ok (.return_, 1) by decide +kernel)
  · replace h := ite_f c h
    obtain rfl := Option.some.inj h
    exact v_throw0 (pc := 10) (k := 2) (pc2 := 17) (own := "MatchPipe") (tx := "it is laid") rfl ex_2 rfl (strs_in 1 rfl) (show decode (tC tMp_refuseIfLaid) 10 = .ok (.new 326, 3) by decide +kernel) (show decode (tC tMp_refuseIfLaid) 13 = .ok (.dup, 1) by decide +kernel) (Or.inr ⟨(show decode (tC tMp_refuseIfLaid) 14 = .ok (.ldc_w 328, 3) by decide +kernel), rfl⟩) (show decode (tC tMp_refuseIfLaid) 17 = .ok (.invokespecial 330, 3) by decide +kernel) (show decode (tC tMp_refuseIfLaid) 20 = .ok (.athrow, 1) by decide +kernel) (by rw [hR]; decide) (by rw [hR]; decide) (by rw [hR]; decide) (by rw [hR]; decide)
theorem cMp_refuseIfLaid {l : Launch} (hl : l.flags = pinnedFlags ++ [noTraceFlag]) {D : va_G} {dA : Nat → ClassId} {B : Nat} {x0 : Nat} {S : Sx} {X : Nat × Int32 × Sx} (h : fMp_refuseIfLaid x0 S = some X) : Mx l yMp_refuseIfLaid tMp_refuseIfLaid rMp_refuseIfLaid (if X.1 = 0 then 0 else 1) (if X.1 = 0 then 0 else 6) D dA B S [.ref x0] X.1 none X.2.2 :=
  mx_of hl (by decide) rfl rfl (Nat.le_of_ble_eq_true rfl) (fun Γ e1 e2 e3 e4 e5 => by subst e1; subst e3; subst e4; subst e5; exact wMp_refuseIfLaid e2 hl x0 S h)
/-! MatchPipe.refuseBeyond(II)V -/
def yMp_refuseBeyond : MethodName := ⟨"MatchPipe", "refuseBeyond", "(II)V"⟩
def tMp_refuseBeyond : tM := (prog_1_method_28_code, "MatchPipe", 3, "refuseBeyond", none, [])
def rMp_refuseBeyond : Room := { frames := 7, cells := 1, slots := 6, locals := 130 }
theorem kMp_refuseBeyond : cOf yMp_refuseBeyond tMp_refuseBeyond ∈ gT := gT_in 702 (by decide +kernel) rfl
theorem iMp_refuseBeyond : Cond.initialized yMp_refuseBeyond.cls ∈ gT := gT_in 55 (by decide +kernel) rfl
theorem mMp_refuseBeyond : okM yMp_refuseBeyond 2 := ⟨by decide, by decide, by unfold nPar; decide +kernel⟩
theorem nMp_refuseBeyond : Cond.instanceMethod yMp_refuseBeyond ∈ gT := gT_in 701 (by decide +kernel) rfl
theorem lMp_refuseBeyond : Cond.selects "MatchPipe" yMp_refuseBeyond yMp_refuseBeyond ∈ gT := gT_in 3 (by decide +kernel) rfl
def fMp_refuseBeyond (x0 : Nat) (x1 : Int32) (x2 : Int32) (S : Sx) : Option (Nat × Int32 × Sx) :=
    (ckd S x0 0).bind fun _ =>
    bdT (fMp_refuseIfLaid x0 S) fun r4 S5 =>
    if x1 < x2 then
    (some (0, 0, S5))
    else
    (some (2, 0, nx S5))
set_option maxRecDepth 100000 in
set_option maxHeartbeats 4000000 in
theorem wMp_refuseBeyond {Γ : vG} (hR : gR Γ = rMp_refuseBeyond) (hl : (gl Γ).flags = pinnedFlags ++ [noTraceFlag]) (x0 : Nat) (x1 : Int32) (x2 : Int32) (S : Sx) {X : Nat × Int32 × Sx} (h : fMp_refuseBeyond x0 x1 x2 S = some X) : vV Γ tMp_refuseBeyond (mQ Γ (if X.1 = 0 then 0 else 1) (if X.1 = 0 then 0 else 6) X.1 none X.2.2) S 0 0 0 [(0, .ref x0), (1, .int x1), (2, .int x2)] [] := by
  unfold fMp_refuseBeyond at h
  refine v_aload_n (pc := 0) (show decode (tC tMp_refuseBeyond) 0 = .ok (.aload_n 0, 1) by decide +kernel) 0 rfl rfl ?_
  obtain ⟨_, e2, h⟩ := ob h
  obtain ⟨k3, r4, S5, e1, ⟨hk, h⟩ | ⟨hk, h⟩⟩ := obT h
  · subst hk
    refine v_callR (pc := 1) (mc := 1) (ms := 6) (v := none) (y := yMp_refuseIfLaid) (θ' := tMp_refuseIfLaid) (rm := rMp_refuseIfLaid) (av := [.ref x0]) (st := []) (cMp_refuseIfLaid (l := gl Γ) hl e1) kMp_refuseIfLaid iMp_refuseIfLaid (iv_virt (y := yMp_refuseIfLaid) (θ' := tMp_refuseIfLaid) (kd := 0) (As := []) rfl (ckd_of e2) kMp_refuseIfLaid (gT_in 703 (by decide +kernel) rfl) nMp_refuseIfLaid lMp_refuseIfLaid mMp_refuseIfLaid rfl (show decode (tC tMp_refuseBeyond) 1 = .ok (.invokevirtual 114, 3) by decide +kernel)) ⟨by rw [hR]; decide, by rw [hR]; decide, by rw [hR]; decide, by rw [hR]; decide⟩ (Nat.le_of_ble_eq_true rfl) ?_
    refine v_iload_n (pc := 4) (show decode (tC tMp_refuseBeyond) 4 = .ok (.iload_n 1, 1) by decide +kernel) 1 rfl rfl ?_
    refine v_iload_n (pc := 5) (show decode (tC tMp_refuseBeyond) 5 = .ok (.iload_n 2, 1) by decide +kernel) 2 rfl rfl ?_
    refine v_icmp_lt (pc := 6) 20 (show decode (tC tMp_refuseBeyond) 6 = .ok (.if_icmp .lt 14, 3) by decide +kernel) (by decide) (fun c => ?_) (fun c => ?_)
    · replace h := ite_t c h
      obtain rfl := Option.some.inj h
      refine v_wide (ce2 := 0) (sl2 := 0) (by decide) (by decide) ?_
      exact v_vret (pc := 20) rfl (show decode (tC tMp_refuseBeyond) 20 = .ok (.return_, 1) by decide +kernel)
    · replace h := ite_f c h
      obtain rfl := Option.some.inj h
      exact v_throw0 (pc := 9) (k := 2) (pc2 := 16) (own := "MatchPipe") (tx := "there is no room for one more") rfl ex_2 rfl (strs_in 2 rfl) (show decode (tC tMp_refuseBeyond) 9 = .ok (.new 326, 3) by decide +kernel) (show decode (tC tMp_refuseBeyond) 12 = .ok (.dup, 1) by decide +kernel) (Or.inr ⟨(show decode (tC tMp_refuseBeyond) 13 = .ok (.ldc_w 331, 3) by decide +kernel), rfl⟩) (show decode (tC tMp_refuseBeyond) 16 = .ok (.invokespecial 330, 3) by decide +kernel) (show decode (tC tMp_refuseBeyond) 19 = .ok (.athrow, 1) by decide +kernel) (by rw [hR]; decide) (by rw [hR]; decide) (by rw [hR]; decide) (by rw [hR]; decide)
  · subst h
    exact v_callT (pc := 1) (mc := 1) (ms := 6) hk (y := yMp_refuseIfLaid) (θ' := tMp_refuseIfLaid) (rm := rMp_refuseIfLaid) (av := [.ref x0]) (st := []) (cMp_refuseIfLaid (l := gl Γ) hl e1) kMp_refuseIfLaid iMp_refuseIfLaid (iv_virt (y := yMp_refuseIfLaid) (θ' := tMp_refuseIfLaid) (kd := 0) (As := []) rfl (ckd_of e2) kMp_refuseIfLaid (gT_in 703 (by decide +kernel) rfl) nMp_refuseIfLaid lMp_refuseIfLaid mMp_refuseIfLaid rfl (show decode (tC tMp_refuseBeyond) 1 = .ok (.invokevirtual 114, 3) by decide +kernel)) ⟨by rw [hR]; decide, by rw [hR]; decide, by rw [hR]; decide, by rw [hR]; decide⟩ (Nat.le_of_ble_eq_true rfl) rfl
theorem cMp_refuseBeyond {l : Launch} (hl : l.flags = pinnedFlags ++ [noTraceFlag]) {D : va_G} {dA : Nat → ClassId} {B : Nat} {x0 : Nat} {x1 : Int32} {x2 : Int32} {S : Sx} {X : Nat × Int32 × Sx} (h : fMp_refuseBeyond x0 x1 x2 S = some X) : Mx l yMp_refuseBeyond tMp_refuseBeyond rMp_refuseBeyond (if X.1 = 0 then 0 else 1) (if X.1 = 0 then 0 else 6) D dA B S [.ref x0, .int x1, .int x2] X.1 none X.2.2 :=
  mx_of hl (by decide) rfl rfl (Nat.le_of_ble_eq_true rfl) (fun Γ e1 e2 e3 e4 e5 => by subst e1; subst e3; subst e4; subst e5; exact wMp_refuseBeyond e2 hl x0 x1 x2 S h)
/-! MatchPipe.field(I)I -/
def yMp_field : MethodName := ⟨"MatchPipe", "field", "(I)I"⟩
def tMp_field : tM := (prog_1_method_3_code, "MatchPipe", 2, "field", some .int, [])
def rMp_field : Room := { frames := 8, cells := 1, slots := 6, locals := 152 }
theorem kMp_field : cOf yMp_field tMp_field ∈ gT := gT_in 630 (by decide +kernel) rfl
theorem iMp_field : Cond.initialized yMp_field.cls ∈ gT := gT_in 55 (by decide +kernel) rfl
theorem mMp_field : okM yMp_field 1 := ⟨by decide, by decide, by unfold nPar; decide +kernel⟩
theorem nMp_field : Cond.instanceMethod yMp_field ∈ gT := gT_in 628 (by decide +kernel) rfl
theorem lMp_field : Cond.selects "MatchPipe" yMp_field yMp_field ∈ gT := gT_in 629 (by decide +kernel) rfl
def fMp_field_11   (S : Sx) : Option (Nat × Int32 × Sx) :=
    some (1, 0, nx S)
set_option maxRecDepth 100000 in
set_option maxHeartbeats 4000000 in
theorem wMp_field_11 {Γ : vG} (hR : gR Γ = rMp_field) (hl : (gl Γ).flags = pinnedFlags ++ [noTraceFlag]) {X : Nat × Int32 × Sx}  : ∀  (S : Sx), fMp_field_11   S = some X → vV Γ tMp_field (mQ Γ (if X.1 = 0 then 0 else 1) (if X.1 = 0 then 0 else 6) X.1 (some (.int X.2.1)) X.2.2) S 0 0 11 [] [] := by
  intro  S h
  unfold fMp_field_11 at h
  obtain rfl := Option.some.inj h
  exact v_throw0 (pc := 11) (k := 1) (pc2 := 17) (own := "MatchPipe") (tx := "a width is 1 to 32") rfl ex_1 rfl (strs_in 0 rfl) (show decode (tC tMp_field) 11 = .ok (.new 63, 3) by decide +kernel) (show decode (tC tMp_field) 14 = .ok (.dup, 1) by decide +kernel) (Or.inl ⟨(show decode (tC tMp_field) 15 = .ok (.ldc 65, 2) by decide +kernel), rfl⟩) (show decode (tC tMp_field) 17 = .ok (.invokespecial 67, 3) by decide +kernel) (show decode (tC tMp_field) 20 = .ok (.athrow, 1) by decide +kernel) (by rw [hR]; decide) (by rw [hR]; decide) (by rw [hR]; decide) (by rw [hR]; decide)
def fMp_field (x0 : Nat) (x1 : Int32) (S : Sx) : Option (Nat × Int32 × Sx) :=
    if x1 < 1 then
    (fMp_field_11  S)
    else
    (if x1 ≤ 32 then
    ((gX S 0 1 x0).bind fun v1 =>
    (gI S 1 5 v1).bind fun v3 =>
    (ckd S x0 0).bind fun _ =>
    bdT (fMp_refuseBeyond x0 v3 16 S) fun r8 S9 =>
    (gX S9 0 1 x0).bind fun v10 =>
    (gX S9 1 0 v10).bind fun v12 =>
    (gX S9 0 1 x0).bind fun v14 =>
    (gI S9 1 5 v14).bind fun v16 =>
    (qI S9 v12 v16 x1).bind fun S18 =>
    (gX S18 0 1 x0).bind fun v20 =>
    (gI S18 1 5 v20).bind fun v22 =>
    (pI S18 1 5 v20 (v22 + 1)).bind fun S24 =>
    some (0, v22, S24))
    else
    (fMp_field_11  S))
set_option maxRecDepth 100000 in
set_option maxHeartbeats 4000000 in
theorem wMp_field {Γ : vG} (hR : gR Γ = rMp_field) (hl : (gl Γ).flags = pinnedFlags ++ [noTraceFlag]) (x0 : Nat) (x1 : Int32) (S : Sx) {X : Nat × Int32 × Sx} (h : fMp_field x0 x1 S = some X) : vV Γ tMp_field (mQ Γ (if X.1 = 0 then 0 else 1) (if X.1 = 0 then 0 else 6) X.1 (some (.int X.2.1)) X.2.2) S 0 0 0 [(0, .ref x0), (1, .int x1)] [] := by
  unfold fMp_field at h
  refine v_iload_n (pc := 0) (show decode (tC tMp_field) 0 = .ok (.iload_n 1, 1) by decide +kernel) 1 rfl rfl ?_
  refine v_iconst (pc := 1) (v := 1) (show decode (tC tMp_field) 1 = .ok (.iconst 1, 1) by decide +kernel) (by decide) ?_
  refine v_icmp_lt (pc := 2) 11 (show decode (tC tMp_field) 2 = .ok (.if_icmp .lt 9, 3) by decide +kernel) (by decide) (fun c => ?_) (fun c => ?_)
  · replace h := ite_t c h
    refine v_sub [] [] rfl ?_
    exact wMp_field_11 hR hl  S h
  · replace h := ite_f c h
    refine v_iload_n (pc := 5) (show decode (tC tMp_field) 5 = .ok (.iload_n 1, 1) by decide +kernel) 1 rfl rfl ?_
    refine v_bipush (pc := 6) (v := 32) (show decode (tC tMp_field) 6 = .ok (.bipush 32, 2) by decide +kernel) (by decide) ?_
    refine v_icmp_le (pc := 8) 21 (show decode (tC tMp_field) 8 = .ok (.if_icmp .le 13, 3) by decide +kernel) (by decide) (fun c => ?_) (fun c => ?_)
    · replace h := ite_t c h
      refine v_aload_n (pc := 21) (show decode (tC tMp_field) 21 = .ok (.aload_n 0, 1) by decide +kernel) 0 rfl rfl ?_
      refine v_aload_n (pc := 22) (show decode (tC tMp_field) 22 = .ok (.aload_n 0, 1) by decide +kernel) 0 rfl rfl ?_
      obtain ⟨v1, e2, h⟩ := ob h
      refine v_getX (pc := 23) oF_Mp_20 e2 (show decode (tC tMp_field) 23 = .ok (.getfield 20, 3) by decide +kernel) ?_
      obtain ⟨v3, e4, h⟩ := ob h
      refine v_getI (pc := 26) oF_Mp_70 (by decide) e4 (show decode (tC tMp_field) 26 = .ok (.getfield 70, 3) by decide +kernel) ?_
      refine v_bipush (pc := 29) (v := 16) (show decode (tC tMp_field) 29 = .ok (.bipush 16, 2) by decide +kernel) (by decide) ?_
      obtain ⟨_, e6, h⟩ := ob h
      obtain ⟨k7, r8, S9, e5, ⟨hk, h⟩ | ⟨hk, h⟩⟩ := obT h
      · subst hk
        refine v_callR (pc := 31) (mc := 1) (ms := 6) (v := none) (y := yMp_refuseBeyond) (θ' := tMp_refuseBeyond) (rm := rMp_refuseBeyond) (av := [.ref x0, .int v3, .int 16]) (st := []) (cMp_refuseBeyond (l := gl Γ) hl e5) kMp_refuseBeyond iMp_refuseBeyond (iv_virt (y := yMp_refuseBeyond) (θ' := tMp_refuseBeyond) (kd := 0) (As := [.int v3, .int 16]) rfl (ckd_of e6) kMp_refuseBeyond (gT_in 699 (by decide +kernel) rfl) nMp_refuseBeyond lMp_refuseBeyond mMp_refuseBeyond rfl (show decode (tC tMp_field) 31 = .ok (.invokevirtual 73, 3) by decide +kernel)) ⟨by rw [hR]; decide, by rw [hR]; decide, by rw [hR]; decide, by rw [hR]; decide⟩ (Nat.le_of_ble_eq_true rfl) ?_
        refine v_aload_n (pc := 34) (show decode (tC tMp_field) 34 = .ok (.aload_n 0, 1) by decide +kernel) 0 rfl rfl ?_
        obtain ⟨v10, e11, h⟩ := ob h
        refine v_getX (pc := 35) oF_Mp_20 e11 (show decode (tC tMp_field) 35 = .ok (.getfield 20, 3) by decide +kernel) ?_
        obtain ⟨v12, e13, h⟩ := ob h
        refine v_getX (pc := 38) oF_Mp_77 e13 (show decode (tC tMp_field) 38 = .ok (.getfield 77, 3) by decide +kernel) ?_
        refine v_aload_n (pc := 41) (show decode (tC tMp_field) 41 = .ok (.aload_n 0, 1) by decide +kernel) 0 rfl rfl ?_
        obtain ⟨v14, e15, h⟩ := ob h
        refine v_getX (pc := 42) oF_Mp_20 e15 (show decode (tC tMp_field) 42 = .ok (.getfield 20, 3) by decide +kernel) ?_
        obtain ⟨v16, e17, h⟩ := ob h
        refine v_getI (pc := 45) oF_Mp_70 (by decide) e17 (show decode (tC tMp_field) 45 = .ok (.getfield 70, 3) by decide +kernel) ?_
        refine v_iload_n (pc := 48) (show decode (tC tMp_field) 48 = .ok (.iload_n 1, 1) by decide +kernel) 1 rfl rfl ?_
        obtain ⟨S18, e19, h⟩ := ob h
        refine v_iast (pc := 49) e19 (show decode (tC tMp_field) 49 = .ok (.iastore, 1) by decide +kernel) ?_
        refine v_aload_n (pc := 50) (show decode (tC tMp_field) 50 = .ok (.aload_n 0, 1) by decide +kernel) 0 rfl rfl ?_
        obtain ⟨v20, e21, h⟩ := ob h
        refine v_getX (pc := 51) oF_Mp_20 e21 (show decode (tC tMp_field) 51 = .ok (.getfield 20, 3) by decide +kernel) ?_
        refine v_dup (pc := 54) (show decode (tC tMp_field) 54 = .ok (.dup, 1) by decide +kernel) rfl ?_
        obtain ⟨v22, e23, h⟩ := ob h
        refine v_getI (pc := 55) oF_Mp_70 (by decide) e23 (show decode (tC tMp_field) 55 = .ok (.getfield 70, 3) by decide +kernel) ?_
        refine v_dup_x1 (pc := 58) (show decode (tC tMp_field) 58 = .ok (.dup_x1, 1) by decide +kernel) rfl rfl ?_
        refine v_iconst (pc := 59) (v := 1) (show decode (tC tMp_field) 59 = .ok (.iconst 1, 1) by decide +kernel) (by decide) ?_
        refine v_iadd (pc := 60) (show decode (tC tMp_field) 60 = .ok (.iadd, 1) by decide +kernel) ?_
        obtain ⟨S24, e25, h⟩ := ob h
        refine v_putI (pc := 61) oF_Mp_70 (fin_ok (kd := 1) (k := 5) (by decide +kernel)) e25 (show decode (tC tMp_field) 61 = .ok (.putfield 70, 3) by decide +kernel) ?_
        obtain rfl := Option.some.inj h
        refine v_wide (ce2 := 0) (sl2 := 0) (by decide) (by decide) ?_
        exact v_iret (pc := 64) rfl (show decode (tC tMp_field) 64 = .ok (.ireturn, 1) by decide +kernel)
      · subst h
        exact v_callT (pc := 31) (mc := 1) (ms := 6) hk (y := yMp_refuseBeyond) (θ' := tMp_refuseBeyond) (rm := rMp_refuseBeyond) (av := [.ref x0, .int v3, .int 16]) (st := []) (cMp_refuseBeyond (l := gl Γ) hl e5) kMp_refuseBeyond iMp_refuseBeyond (iv_virt (y := yMp_refuseBeyond) (θ' := tMp_refuseBeyond) (kd := 0) (As := [.int v3, .int 16]) rfl (ckd_of e6) kMp_refuseBeyond (gT_in 699 (by decide +kernel) rfl) nMp_refuseBeyond lMp_refuseBeyond mMp_refuseBeyond rfl (show decode (tC tMp_field) 31 = .ok (.invokevirtual 73, 3) by decide +kernel)) ⟨by rw [hR]; decide, by rw [hR]; decide, by rw [hR]; decide, by rw [hR]; decide⟩ (Nat.le_of_ble_eq_true rfl) rfl
    · replace h := ite_f c h
      refine v_sub [] [] rfl ?_
      exact wMp_field_11 hR hl  S h
theorem cMp_field {l : Launch} (hl : l.flags = pinnedFlags ++ [noTraceFlag]) {D : va_G} {dA : Nat → ClassId} {B : Nat} {x0 : Nat} {x1 : Int32} {S : Sx} {X : Nat × Int32 × Sx} (h : fMp_field x0 x1 S = some X) : Mx l yMp_field tMp_field rMp_field (if X.1 = 0 then 0 else 1) (if X.1 = 0 then 0 else 6) D dA B S [.ref x0, .int x1] X.1 (some (.int X.2.1)) X.2.2 :=
  mx_of hl (by decide) rfl rfl (Nat.le_of_ble_eq_true rfl) (fun Γ e1 e2 e3 e4 e5 => by subst e1; subst e3; subst e4; subst e5; exact wMp_field e2 hl x0 x1 S h)
/-! MatchPipe.requireField(I)V -/
def yMp_requireField : MethodName := ⟨"MatchPipe", "requireField", "(I)V"⟩
def tMp_requireField : tM := (prog_1_method_32_code, "MatchPipe", 2, "requireField", none, [])
def rMp_requireField : Room := { frames := 6, cells := 1, slots := 6, locals := 110 }
theorem kMp_requireField : cOf yMp_requireField tMp_requireField ∈ gT := gT_in 738 (by decide +kernel) rfl
theorem iMp_requireField : Cond.initialized yMp_requireField.cls ∈ gT := gT_in 55 (by decide +kernel) rfl
theorem mMp_requireField : okM yMp_requireField 1 := ⟨by decide, by decide, by unfold nPar; decide +kernel⟩
theorem nMp_requireField : Cond.instanceMethod yMp_requireField ∈ gT := gT_in 737 (by decide +kernel) rfl
theorem lMp_requireField : Cond.selects "MatchPipe" yMp_requireField yMp_requireField ∈ gT := gT_in 5 (by decide +kernel) rfl
def fMp_requireField (x0 : Nat) (x1 : Int32) (S : Sx) : Option (Nat × Int32 × Sx) :=
    (gX S 0 1 x0).bind fun v1 =>
    (ckd S v1 1).bind fun _ =>
    bd2 (fPr_hasField v1 x1 S) fun r5 S6 =>
    if r5 = 0 then
    (some (3, 0, nx S6))
    else
    (some (0, 0, S6))
set_option maxRecDepth 100000 in
set_option maxHeartbeats 4000000 in
theorem wMp_requireField {Γ : vG} (hR : gR Γ = rMp_requireField) (hl : (gl Γ).flags = pinnedFlags ++ [noTraceFlag]) (x0 : Nat) (x1 : Int32) (S : Sx) {X : Nat × Int32 × Sx} (h : fMp_requireField x0 x1 S = some X) : vV Γ tMp_requireField (mQ Γ (if X.1 = 0 then 0 else 1) (if X.1 = 0 then 0 else 6) X.1 none X.2.2) S 0 0 0 [(0, .ref x0), (1, .int x1)] [] := by
  unfold fMp_requireField at h
  refine v_aload_n (pc := 0) (show decode (tC tMp_requireField) 0 = .ok (.aload_n 0, 1) by decide +kernel) 0 rfl rfl ?_
  obtain ⟨v1, e2, h⟩ := ob h
  refine v_getX (pc := 1) oF_Mp_20 e2 (show decode (tC tMp_requireField) 1 = .ok (.getfield 20, 3) by decide +kernel) ?_
  refine v_iload_n (pc := 4) (show decode (tC tMp_requireField) 4 = .ok (.iload_n 1, 1) by decide +kernel) 1 rfl rfl ?_
  obtain ⟨_, e4, h⟩ := ob h
  obtain ⟨r5, S6, e3, h⟩ := ob2 h
  refine v_call (pc := 5) (v := (some (.int r5))) (y := yPr_hasField) (θ' := tPr_hasField) (rm := rPr_hasField) (av := [.ref v1, .int x1]) (st := []) (cPr_hasField (l := gl Γ) hl e3) kPr_hasField iPr_hasField (iv_virt (y := yPr_hasField) (θ' := tPr_hasField) (kd := 1) (As := [.int x1]) rfl (ckd_of e4) kPr_hasField (gT_in 739 (by decide +kernel) rfl) nPr_hasField lPr_hasField mPr_hasField rfl (show decode (tC tMp_requireField) 5 = .ok (.invokevirtual 339, 3) by decide +kernel)) ⟨by rw [hR]; decide, by rw [hR]; decide, by rw [hR]; decide, by rw [hR]; decide⟩ (Nat.le_of_ble_eq_true rfl) ?_
  refine v_if_ne (pc := 8) 22 (show decode (tC tMp_requireField) 8 = .ok (.ifCond .ne 14, 3) by decide +kernel) (by decide) (fun c => ?_) (fun c => ?_)
  · replace h := ite_f c h
    obtain rfl := Option.some.inj h
    refine v_wide (ce2 := 0) (sl2 := 0) (by decide) (by decide) ?_
    exact v_vret (pc := 22) rfl (show decode (tC tMp_requireField) 22 = .ok (.return_, 1) by decide +kernel)
  · replace h := ite_t c h
    obtain rfl := Option.some.inj h
    exact v_throw0 (pc := 11) (k := 3) (pc2 := 18) (own := "MatchPipe") (tx := "no such field") rfl ex_3 rfl (strs_in 3 rfl) (show decode (tC tMp_requireField) 11 = .ok (.new 134, 3) by decide +kernel) (show decode (tC tMp_requireField) 14 = .ok (.dup, 1) by decide +kernel) (Or.inr ⟨(show decode (tC tMp_requireField) 15 = .ok (.ldc_w 342, 3) by decide +kernel), rfl⟩) (show decode (tC tMp_requireField) 18 = .ok (.invokespecial 138, 3) by decide +kernel) (show decode (tC tMp_requireField) 21 = .ok (.athrow, 1) by decide +kernel) (by rw [hR]; decide) (by rw [hR]; decide) (by rw [hR]; decide) (by rw [hR]; decide)
theorem cMp_requireField {l : Launch} (hl : l.flags = pinnedFlags ++ [noTraceFlag]) {D : va_G} {dA : Nat → ClassId} {B : Nat} {x0 : Nat} {x1 : Int32} {S : Sx} {X : Nat × Int32 × Sx} (h : fMp_requireField x0 x1 S = some X) : Mx l yMp_requireField tMp_requireField rMp_requireField (if X.1 = 0 then 0 else 1) (if X.1 = 0 then 0 else 6) D dA B S [.ref x0, .int x1] X.1 none X.2.2 :=
  mx_of hl (by decide) rfl rfl (Nat.le_of_ble_eq_true rfl) (fun Γ e1 e2 e3 e4 e5 => by subst e1; subst e3; subst e4; subst e5; exact wMp_requireField e2 hl x0 x1 S h)
/-! MatchPipe.state(IIIII)I -/
def yMp_state : MethodName := ⟨"MatchPipe", "state", "(IIIII)I"⟩
def tMp_state : tM := (prog_1_method_4_code, "MatchPipe", 8, "state", some .int, [])
def rMp_state : Room := { frames := 8, cells := 1, slots := 6, locals := 152 }
theorem kMp_state : cOf yMp_state tMp_state ∈ gT := gT_in 731 (by decide +kernel) rfl
theorem iMp_state : Cond.initialized yMp_state.cls ∈ gT := gT_in 55 (by decide +kernel) rfl
theorem mMp_state : okM yMp_state 5 := ⟨by decide, by decide, by unfold nPar; decide +kernel⟩
theorem nMp_state : Cond.instanceMethod yMp_state ∈ gT := gT_in 729 (by decide +kernel) rfl
theorem lMp_state : Cond.selects "MatchPipe" yMp_state yMp_state ∈ gT := gT_in 730 (by decide +kernel) rfl
def fMp_state_66  (x0 : Nat) (x1 : Int32) (x2 : Int32) (x3 : Int32) (x4 : Int32) (x5 : Int32) (x6 : Int32) (S : Sx) : Option (Nat × Int32 × Sx) :=
    (gX S 0 1 x0).bind fun v1 =>
    (gI S 1 6 v1).bind fun v3 =>
    (ckd S x0 0).bind fun _ =>
    bdT (fMp_refuseBeyond x0 v3 8 S) fun r8 S9 =>
    (gX S9 0 1 x0).bind fun v10 =>
    (gX S9 1 1 v10).bind fun v12 =>
    (gX S9 0 1 x0).bind fun v14 =>
    (gI S9 1 6 v14).bind fun v16 =>
    (aX S9 2 v12 v16).bind fun v18 =>
    (ckd S9 v18 2).bind fun _ =>
    (fSt_begin v18 x6 x5 S9).bind fun S22 =>
    (gX S22 2 0 v18).bind fun v23 =>
    (qI S22 v23 0 x1).bind fun S25 =>
    (gX S25 2 0 v18).bind fun v27 =>
    (qI S25 v27 1 x2).bind fun S29 =>
    (gX S29 2 0 v18).bind fun v31 =>
    (qI S29 v31 2 x3).bind fun S33 =>
    (gX S33 2 0 v18).bind fun v35 =>
    (qI S33 v35 3 x4).bind fun S37 =>
    (gX S37 0 1 x0).bind fun v39 =>
    (gI S37 1 6 v39).bind fun v41 =>
    (pI S37 1 6 v39 (v41 + 1)).bind fun S43 =>
    some (0, v41, S43)
set_option maxRecDepth 100000 in
set_option maxHeartbeats 4000000 in
theorem wMp_state_66 {Γ : vG} (hR : gR Γ = rMp_state) (hl : (gl Γ).flags = pinnedFlags ++ [noTraceFlag]) {X : Nat × Int32 × Sx}  : ∀ (x0 : Nat) (x1 : Int32) (x2 : Int32) (x3 : Int32) (x4 : Int32) (x5 : Int32) (x6 : Int32) (S : Sx), fMp_state_66  x0 x1 x2 x3 x4 x5 x6 S = some X → vV Γ tMp_state (mQ Γ (if X.1 = 0 then 0 else 1) (if X.1 = 0 then 0 else 6) X.1 (some (.int X.2.1)) X.2.2) S 0 0 66 [(0, .ref x0), (1, .int x1), (2, .int x2), (3, .int x3), (4, .int x4), (5, .int x5), (6, .int x6)] [] := by
  intro x0 x1 x2 x3 x4 x5 x6 S h
  unfold fMp_state_66 at h
  refine v_aload_n (pc := 66) (show decode (tC tMp_state) 66 = .ok (.aload_n 0, 1) by decide +kernel) 0 rfl rfl ?_
  refine v_aload_n (pc := 67) (show decode (tC tMp_state) 67 = .ok (.aload_n 0, 1) by decide +kernel) 0 rfl rfl ?_
  obtain ⟨v1, e2, h⟩ := ob h
  refine v_getX (pc := 68) oF_Mp_20 e2 (show decode (tC tMp_state) 68 = .ok (.getfield 20, 3) by decide +kernel) ?_
  obtain ⟨v3, e4, h⟩ := ob h
  refine v_getI (pc := 71) oF_Mp_89 (by decide) e4 (show decode (tC tMp_state) 71 = .ok (.getfield 89, 3) by decide +kernel) ?_
  refine v_bipush (pc := 74) (v := 8) (show decode (tC tMp_state) 74 = .ok (.bipush 8, 2) by decide +kernel) (by decide) ?_
  obtain ⟨_, e6, h⟩ := ob h
  obtain ⟨k7, r8, S9, e5, ⟨hk, h⟩ | ⟨hk, h⟩⟩ := obT h
  · subst hk
    refine v_callR (pc := 76) (mc := 1) (ms := 6) (v := none) (y := yMp_refuseBeyond) (θ' := tMp_refuseBeyond) (rm := rMp_refuseBeyond) (av := [.ref x0, .int v3, .int 8]) (st := []) (cMp_refuseBeyond (l := gl Γ) hl e5) kMp_refuseBeyond iMp_refuseBeyond (iv_virt (y := yMp_refuseBeyond) (θ' := tMp_refuseBeyond) (kd := 0) (As := [.int v3, .int 8]) rfl (ckd_of e6) kMp_refuseBeyond (gT_in 699 (by decide +kernel) rfl) nMp_refuseBeyond lMp_refuseBeyond mMp_refuseBeyond rfl (show decode (tC tMp_state) 76 = .ok (.invokevirtual 73, 3) by decide +kernel)) ⟨by rw [hR]; decide, by rw [hR]; decide, by rw [hR]; decide, by rw [hR]; decide⟩ (Nat.le_of_ble_eq_true rfl) ?_
    refine v_aload_n (pc := 79) (show decode (tC tMp_state) 79 = .ok (.aload_n 0, 1) by decide +kernel) 0 rfl rfl ?_
    obtain ⟨v10, e11, h⟩ := ob h
    refine v_getX (pc := 80) oF_Mp_20 e11 (show decode (tC tMp_state) 80 = .ok (.getfield 20, 3) by decide +kernel) ?_
    obtain ⟨v12, e13, h⟩ := ob h
    refine v_getX (pc := 83) oF_Mp_92 e13 (show decode (tC tMp_state) 83 = .ok (.getfield 92, 3) by decide +kernel) ?_
    refine v_aload_n (pc := 86) (show decode (tC tMp_state) 86 = .ok (.aload_n 0, 1) by decide +kernel) 0 rfl rfl ?_
    obtain ⟨v14, e15, h⟩ := ob h
    refine v_getX (pc := 87) oF_Mp_20 e15 (show decode (tC tMp_state) 87 = .ok (.getfield 20, 3) by decide +kernel) ?_
    obtain ⟨v16, e17, h⟩ := ob h
    refine v_getI (pc := 90) oF_Mp_89 (by decide) e17 (show decode (tC tMp_state) 90 = .ok (.getfield 89, 3) by decide +kernel) ?_
    obtain ⟨v18, e19, h⟩ := ob h
    refine v_aald (pc := 93) (kd := 2) rfl e19 (show decode (tC tMp_state) 93 = .ok (.aaload, 1) by decide +kernel) ?_
    refine v_astore (pc := 94) [(7, .ref v18), (0, .ref x0), (1, .int x1), (2, .int x2), (3, .int x3), (4, .int x4), (5, .int x5), (6, .int x6)] (show decode (tC tMp_state) 94 = .ok (.astore 7, 2) by decide +kernel) (by decide) rfl ?_
    refine v_aload (pc := 96) (show decode (tC tMp_state) 96 = .ok (.aload 7, 2) by decide +kernel) 0 rfl ?_
    refine v_iload (pc := 98) (show decode (tC tMp_state) 98 = .ok (.iload 6, 2) by decide +kernel) 7 rfl ?_
    refine v_iload (pc := 100) (show decode (tC tMp_state) 100 = .ok (.iload 5, 2) by decide +kernel) 6 rfl ?_
    obtain ⟨_, e21, h⟩ := ob h
    obtain ⟨S22, e20, h⟩ := ob h
    refine v_call (pc := 102) (v := none) (y := ySt_begin) (θ' := tSt_begin) (rm := rSt_begin) (av := [.ref v18, .int x6, .int x5]) (st := []) (cSt_begin (l := gl Γ) hl e20) kSt_begin iSt_begin (iv_virt (y := ySt_begin) (θ' := tSt_begin) (kd := 2) (As := [.int x6, .int x5]) rfl (ckd_of e21) kSt_begin (gT_in 759 (by decide +kernel) rfl) nSt_begin lSt_begin mSt_begin rfl (show decode (tC tMp_state) 102 = .ok (.invokevirtual 96, 3) by decide +kernel)) ⟨by rw [hR]; decide, by rw [hR]; decide, by rw [hR]; decide, by rw [hR]; decide⟩ (Nat.le_of_ble_eq_true rfl) ?_
    refine v_aload (pc := 105) (show decode (tC tMp_state) 105 = .ok (.aload 7, 2) by decide +kernel) 0 rfl ?_
    obtain ⟨v23, e24, h⟩ := ob h
    refine v_getX (pc := 107) oF_Mp_101 e24 (show decode (tC tMp_state) 107 = .ok (.getfield 101, 3) by decide +kernel) ?_
    refine v_iconst (pc := 110) (v := 0) (show decode (tC tMp_state) 110 = .ok (.iconst 0, 1) by decide +kernel) (by decide) ?_
    refine v_iload_n (pc := 111) (show decode (tC tMp_state) 111 = .ok (.iload_n 1, 1) by decide +kernel) 2 rfl rfl ?_
    obtain ⟨S25, e26, h⟩ := ob h
    refine v_iast (pc := 112) e26 (show decode (tC tMp_state) 112 = .ok (.iastore, 1) by decide +kernel) ?_
    refine v_aload (pc := 113) (show decode (tC tMp_state) 113 = .ok (.aload 7, 2) by decide +kernel) 0 rfl ?_
    obtain ⟨v27, e28, h⟩ := ob h
    refine v_getX (pc := 115) oF_Mp_101 e28 (show decode (tC tMp_state) 115 = .ok (.getfield 101, 3) by decide +kernel) ?_
    refine v_iconst (pc := 118) (v := 1) (show decode (tC tMp_state) 118 = .ok (.iconst 1, 1) by decide +kernel) (by decide) ?_
    refine v_iload_n (pc := 119) (show decode (tC tMp_state) 119 = .ok (.iload_n 2, 1) by decide +kernel) 3 rfl rfl ?_
    obtain ⟨S29, e30, h⟩ := ob h
    refine v_iast (pc := 120) e30 (show decode (tC tMp_state) 120 = .ok (.iastore, 1) by decide +kernel) ?_
    refine v_aload (pc := 121) (show decode (tC tMp_state) 121 = .ok (.aload 7, 2) by decide +kernel) 0 rfl ?_
    obtain ⟨v31, e32, h⟩ := ob h
    refine v_getX (pc := 123) oF_Mp_101 e32 (show decode (tC tMp_state) 123 = .ok (.getfield 101, 3) by decide +kernel) ?_
    refine v_iconst (pc := 126) (v := 2) (show decode (tC tMp_state) 126 = .ok (.iconst 2, 1) by decide +kernel) (by decide) ?_
    refine v_iload_n (pc := 127) (show decode (tC tMp_state) 127 = .ok (.iload_n 3, 1) by decide +kernel) 4 rfl rfl ?_
    obtain ⟨S33, e34, h⟩ := ob h
    refine v_iast (pc := 128) e34 (show decode (tC tMp_state) 128 = .ok (.iastore, 1) by decide +kernel) ?_
    refine v_aload (pc := 129) (show decode (tC tMp_state) 129 = .ok (.aload 7, 2) by decide +kernel) 0 rfl ?_
    obtain ⟨v35, e36, h⟩ := ob h
    refine v_getX (pc := 131) oF_Mp_101 e36 (show decode (tC tMp_state) 131 = .ok (.getfield 101, 3) by decide +kernel) ?_
    refine v_iconst (pc := 134) (v := 3) (show decode (tC tMp_state) 134 = .ok (.iconst 3, 1) by decide +kernel) (by decide) ?_
    refine v_iload (pc := 135) (show decode (tC tMp_state) 135 = .ok (.iload 4, 2) by decide +kernel) 5 rfl ?_
    obtain ⟨S37, e38, h⟩ := ob h
    refine v_iast (pc := 137) e38 (show decode (tC tMp_state) 137 = .ok (.iastore, 1) by decide +kernel) ?_
    refine v_aload_n (pc := 138) (show decode (tC tMp_state) 138 = .ok (.aload_n 0, 1) by decide +kernel) 1 rfl rfl ?_
    obtain ⟨v39, e40, h⟩ := ob h
    refine v_getX (pc := 139) oF_Mp_20 e40 (show decode (tC tMp_state) 139 = .ok (.getfield 20, 3) by decide +kernel) ?_
    refine v_dup (pc := 142) (show decode (tC tMp_state) 142 = .ok (.dup, 1) by decide +kernel) rfl ?_
    obtain ⟨v41, e42, h⟩ := ob h
    refine v_getI (pc := 143) oF_Mp_89 (by decide) e42 (show decode (tC tMp_state) 143 = .ok (.getfield 89, 3) by decide +kernel) ?_
    refine v_dup_x1 (pc := 146) (show decode (tC tMp_state) 146 = .ok (.dup_x1, 1) by decide +kernel) rfl rfl ?_
    refine v_iconst (pc := 147) (v := 1) (show decode (tC tMp_state) 147 = .ok (.iconst 1, 1) by decide +kernel) (by decide) ?_
    refine v_iadd (pc := 148) (show decode (tC tMp_state) 148 = .ok (.iadd, 1) by decide +kernel) ?_
    obtain ⟨S43, e44, h⟩ := ob h
    refine v_putI (pc := 149) oF_Mp_89 (fin_ok (kd := 1) (k := 6) (by decide +kernel)) e44 (show decode (tC tMp_state) 149 = .ok (.putfield 89, 3) by decide +kernel) ?_
    obtain rfl := Option.some.inj h
    refine v_wide (ce2 := 0) (sl2 := 0) (by decide) (by decide) ?_
    exact v_iret (pc := 152) rfl (show decode (tC tMp_state) 152 = .ok (.ireturn, 1) by decide +kernel)
  · subst h
    exact v_callT (pc := 76) (mc := 1) (ms := 6) hk (y := yMp_refuseBeyond) (θ' := tMp_refuseBeyond) (rm := rMp_refuseBeyond) (av := [.ref x0, .int v3, .int 8]) (st := []) (cMp_refuseBeyond (l := gl Γ) hl e5) kMp_refuseBeyond iMp_refuseBeyond (iv_virt (y := yMp_refuseBeyond) (θ' := tMp_refuseBeyond) (kd := 0) (As := [.int v3, .int 8]) rfl (ckd_of e6) kMp_refuseBeyond (gT_in 699 (by decide +kernel) rfl) nMp_refuseBeyond lMp_refuseBeyond mMp_refuseBeyond rfl (show decode (tC tMp_state) 76 = .ok (.invokevirtual 73, 3) by decide +kernel)) ⟨by rw [hR]; decide, by rw [hR]; decide, by rw [hR]; decide, by rw [hR]; decide⟩ (Nat.le_of_ble_eq_true rfl) rfl
def fMp_state_54  (x0 : Nat) (x1 : Int32) (x2 : Int32) (x3 : Int32) (x4 : Int32) (x5 : Int32) (x6 : Int32) (S : Sx) : Option (Nat × Int32 × Sx) :=
    if x5 = (-1) then
    (fMp_state_66  x0 x1 x2 x3 x4 x5 x6 S)
    else
    ((ckd S x0 0).bind fun _ =>
    bdT (fMp_requireField x0 x5 S) fun r4 S5 =>
    fMp_state_66  x0 x1 x2 x3 x4 x5 x6 S5)
set_option maxRecDepth 100000 in
set_option maxHeartbeats 4000000 in
theorem wMp_state_54 {Γ : vG} (hR : gR Γ = rMp_state) (hl : (gl Γ).flags = pinnedFlags ++ [noTraceFlag]) {X : Nat × Int32 × Sx}  : ∀ (x0 : Nat) (x1 : Int32) (x2 : Int32) (x3 : Int32) (x4 : Int32) (x5 : Int32) (x6 : Int32) (S : Sx), fMp_state_54  x0 x1 x2 x3 x4 x5 x6 S = some X → vV Γ tMp_state (mQ Γ (if X.1 = 0 then 0 else 1) (if X.1 = 0 then 0 else 6) X.1 (some (.int X.2.1)) X.2.2) S 0 0 54 [(0, .ref x0), (1, .int x1), (2, .int x2), (3, .int x3), (4, .int x4), (5, .int x5), (6, .int x6)] [] := by
  intro x0 x1 x2 x3 x4 x5 x6 S h
  unfold fMp_state_54 at h
  refine v_iload (pc := 54) (show decode (tC tMp_state) 54 = .ok (.iload 5, 2) by decide +kernel) 5 rfl ?_
  refine v_iconst (pc := 56) (v := (-1)) (show decode (tC tMp_state) 56 = .ok (.iconst (-1), 1) by decide +kernel) (by decide) ?_
  refine v_icmp_eq (pc := 57) 66 (show decode (tC tMp_state) 57 = .ok (.if_icmp .eq 9, 3) by decide +kernel) (by decide) (fun c => ?_) (fun c => ?_)
  · replace h := ite_t c h
    exact wMp_state_66 hR hl  x0 x1 x2 x3 x4 x5 x6 S h
  · replace h := ite_f c h
    refine v_aload_n (pc := 60) (show decode (tC tMp_state) 60 = .ok (.aload_n 0, 1) by decide +kernel) 0 rfl rfl ?_
    refine v_iload (pc := 61) (show decode (tC tMp_state) 61 = .ok (.iload 5, 2) by decide +kernel) 5 rfl ?_
    obtain ⟨_, e2, h⟩ := ob h
    obtain ⟨k3, r4, S5, e1, ⟨hk, h⟩ | ⟨hk, h⟩⟩ := obT h
    · subst hk
      refine v_callR (pc := 63) (mc := 1) (ms := 6) (v := none) (y := yMp_requireField) (θ' := tMp_requireField) (rm := rMp_requireField) (av := [.ref x0, .int x5]) (st := []) (cMp_requireField (l := gl Γ) hl e1) kMp_requireField iMp_requireField (iv_virt (y := yMp_requireField) (θ' := tMp_requireField) (kd := 0) (As := [.int x5]) rfl (ckd_of e2) kMp_requireField (gT_in 735 (by decide +kernel) rfl) nMp_requireField lMp_requireField mMp_requireField rfl (show decode (tC tMp_state) 63 = .ok (.invokevirtual 85, 3) by decide +kernel)) ⟨by rw [hR]; decide, by rw [hR]; decide, by rw [hR]; decide, by rw [hR]; decide⟩ (Nat.le_of_ble_eq_true rfl) ?_
      exact wMp_state_66 hR hl  x0 x1 x2 x3 x4 x5 x6 S5 h
    · subst h
      exact v_callT (pc := 63) (mc := 1) (ms := 6) hk (y := yMp_requireField) (θ' := tMp_requireField) (rm := rMp_requireField) (av := [.ref x0, .int x5]) (st := []) (cMp_requireField (l := gl Γ) hl e1) kMp_requireField iMp_requireField (iv_virt (y := yMp_requireField) (θ' := tMp_requireField) (kd := 0) (As := [.int x5]) rfl (ckd_of e2) kMp_requireField (gT_in 735 (by decide +kernel) rfl) nMp_requireField lMp_requireField mMp_requireField rfl (show decode (tC tMp_state) 63 = .ok (.invokevirtual 85, 3) by decide +kernel)) ⟨by rw [hR]; decide, by rw [hR]; decide, by rw [hR]; decide, by rw [hR]; decide⟩ (Nat.le_of_ble_eq_true rfl) rfl
def fMp_state_42  (x0 : Nat) (x1 : Int32) (x2 : Int32) (x3 : Int32) (x4 : Int32) (x5 : Int32) (x6 : Int32) (S : Sx) : Option (Nat × Int32 × Sx) :=
    if x6 ≤ 3 then
    (fMp_state_54  x0 x1 x2 x3 x4 x5 x6 S)
    else
    ((ckd S x0 0).bind fun _ =>
    bdT (fMp_requireField x0 x4 S) fun r4 S5 =>
    fMp_state_54  x0 x1 x2 x3 x4 x5 x6 S5)
set_option maxRecDepth 100000 in
set_option maxHeartbeats 4000000 in
theorem wMp_state_42 {Γ : vG} (hR : gR Γ = rMp_state) (hl : (gl Γ).flags = pinnedFlags ++ [noTraceFlag]) {X : Nat × Int32 × Sx}  : ∀ (x0 : Nat) (x1 : Int32) (x2 : Int32) (x3 : Int32) (x4 : Int32) (x5 : Int32) (x6 : Int32) (S : Sx), fMp_state_42  x0 x1 x2 x3 x4 x5 x6 S = some X → vV Γ tMp_state (mQ Γ (if X.1 = 0 then 0 else 1) (if X.1 = 0 then 0 else 6) X.1 (some (.int X.2.1)) X.2.2) S 0 0 42 [(0, .ref x0), (1, .int x1), (2, .int x2), (3, .int x3), (4, .int x4), (5, .int x5), (6, .int x6)] [] := by
  intro x0 x1 x2 x3 x4 x5 x6 S h
  unfold fMp_state_42 at h
  refine v_iload (pc := 42) (show decode (tC tMp_state) 42 = .ok (.iload 6, 2) by decide +kernel) 6 rfl ?_
  refine v_iconst (pc := 44) (v := 3) (show decode (tC tMp_state) 44 = .ok (.iconst 3, 1) by decide +kernel) (by decide) ?_
  refine v_icmp_le (pc := 45) 54 (show decode (tC tMp_state) 45 = .ok (.if_icmp .le 9, 3) by decide +kernel) (by decide) (fun c => ?_) (fun c => ?_)
  · replace h := ite_t c h
    exact wMp_state_54 hR hl  x0 x1 x2 x3 x4 x5 x6 S h
  · replace h := ite_f c h
    refine v_aload_n (pc := 48) (show decode (tC tMp_state) 48 = .ok (.aload_n 0, 1) by decide +kernel) 0 rfl rfl ?_
    refine v_iload (pc := 49) (show decode (tC tMp_state) 49 = .ok (.iload 4, 2) by decide +kernel) 4 rfl ?_
    obtain ⟨_, e2, h⟩ := ob h
    obtain ⟨k3, r4, S5, e1, ⟨hk, h⟩ | ⟨hk, h⟩⟩ := obT h
    · subst hk
      refine v_callR (pc := 51) (mc := 1) (ms := 6) (v := none) (y := yMp_requireField) (θ' := tMp_requireField) (rm := rMp_requireField) (av := [.ref x0, .int x4]) (st := []) (cMp_requireField (l := gl Γ) hl e1) kMp_requireField iMp_requireField (iv_virt (y := yMp_requireField) (θ' := tMp_requireField) (kd := 0) (As := [.int x4]) rfl (ckd_of e2) kMp_requireField (gT_in 735 (by decide +kernel) rfl) nMp_requireField lMp_requireField mMp_requireField rfl (show decode (tC tMp_state) 51 = .ok (.invokevirtual 85, 3) by decide +kernel)) ⟨by rw [hR]; decide, by rw [hR]; decide, by rw [hR]; decide, by rw [hR]; decide⟩ (Nat.le_of_ble_eq_true rfl) ?_
      exact wMp_state_54 hR hl  x0 x1 x2 x3 x4 x5 x6 S5 h
    · subst h
      exact v_callT (pc := 51) (mc := 1) (ms := 6) hk (y := yMp_requireField) (θ' := tMp_requireField) (rm := rMp_requireField) (av := [.ref x0, .int x4]) (st := []) (cMp_requireField (l := gl Γ) hl e1) kMp_requireField iMp_requireField (iv_virt (y := yMp_requireField) (θ' := tMp_requireField) (kd := 0) (As := [.int x4]) rfl (ckd_of e2) kMp_requireField (gT_in 735 (by decide +kernel) rfl) nMp_requireField lMp_requireField mMp_requireField rfl (show decode (tC tMp_state) 51 = .ok (.invokevirtual 85, 3) by decide +kernel)) ⟨by rw [hR]; decide, by rw [hR]; decide, by rw [hR]; decide, by rw [hR]; decide⟩ (Nat.le_of_ble_eq_true rfl) rfl
def fMp_state_31  (x0 : Nat) (x1 : Int32) (x2 : Int32) (x3 : Int32) (x4 : Int32) (x5 : Int32) (x6 : Int32) (S : Sx) : Option (Nat × Int32 × Sx) :=
    if x6 ≤ 2 then
    (fMp_state_42  x0 x1 x2 x3 x4 x5 x6 S)
    else
    ((ckd S x0 0).bind fun _ =>
    bdT (fMp_requireField x0 x3 S) fun r4 S5 =>
    fMp_state_42  x0 x1 x2 x3 x4 x5 x6 S5)
set_option maxRecDepth 100000 in
set_option maxHeartbeats 4000000 in
theorem wMp_state_31 {Γ : vG} (hR : gR Γ = rMp_state) (hl : (gl Γ).flags = pinnedFlags ++ [noTraceFlag]) {X : Nat × Int32 × Sx}  : ∀ (x0 : Nat) (x1 : Int32) (x2 : Int32) (x3 : Int32) (x4 : Int32) (x5 : Int32) (x6 : Int32) (S : Sx), fMp_state_31  x0 x1 x2 x3 x4 x5 x6 S = some X → vV Γ tMp_state (mQ Γ (if X.1 = 0 then 0 else 1) (if X.1 = 0 then 0 else 6) X.1 (some (.int X.2.1)) X.2.2) S 0 0 31 [(0, .ref x0), (1, .int x1), (2, .int x2), (3, .int x3), (4, .int x4), (5, .int x5), (6, .int x6)] [] := by
  intro x0 x1 x2 x3 x4 x5 x6 S h
  unfold fMp_state_31 at h
  refine v_iload (pc := 31) (show decode (tC tMp_state) 31 = .ok (.iload 6, 2) by decide +kernel) 6 rfl ?_
  refine v_iconst (pc := 33) (v := 2) (show decode (tC tMp_state) 33 = .ok (.iconst 2, 1) by decide +kernel) (by decide) ?_
  refine v_icmp_le (pc := 34) 42 (show decode (tC tMp_state) 34 = .ok (.if_icmp .le 8, 3) by decide +kernel) (by decide) (fun c => ?_) (fun c => ?_)
  · replace h := ite_t c h
    exact wMp_state_42 hR hl  x0 x1 x2 x3 x4 x5 x6 S h
  · replace h := ite_f c h
    refine v_aload_n (pc := 37) (show decode (tC tMp_state) 37 = .ok (.aload_n 0, 1) by decide +kernel) 0 rfl rfl ?_
    refine v_iload_n (pc := 38) (show decode (tC tMp_state) 38 = .ok (.iload_n 3, 1) by decide +kernel) 3 rfl rfl ?_
    obtain ⟨_, e2, h⟩ := ob h
    obtain ⟨k3, r4, S5, e1, ⟨hk, h⟩ | ⟨hk, h⟩⟩ := obT h
    · subst hk
      refine v_callR (pc := 39) (mc := 1) (ms := 6) (v := none) (y := yMp_requireField) (θ' := tMp_requireField) (rm := rMp_requireField) (av := [.ref x0, .int x3]) (st := []) (cMp_requireField (l := gl Γ) hl e1) kMp_requireField iMp_requireField (iv_virt (y := yMp_requireField) (θ' := tMp_requireField) (kd := 0) (As := [.int x3]) rfl (ckd_of e2) kMp_requireField (gT_in 735 (by decide +kernel) rfl) nMp_requireField lMp_requireField mMp_requireField rfl (show decode (tC tMp_state) 39 = .ok (.invokevirtual 85, 3) by decide +kernel)) ⟨by rw [hR]; decide, by rw [hR]; decide, by rw [hR]; decide, by rw [hR]; decide⟩ (Nat.le_of_ble_eq_true rfl) ?_
      exact wMp_state_42 hR hl  x0 x1 x2 x3 x4 x5 x6 S5 h
    · subst h
      exact v_callT (pc := 39) (mc := 1) (ms := 6) hk (y := yMp_requireField) (θ' := tMp_requireField) (rm := rMp_requireField) (av := [.ref x0, .int x3]) (st := []) (cMp_requireField (l := gl Γ) hl e1) kMp_requireField iMp_requireField (iv_virt (y := yMp_requireField) (θ' := tMp_requireField) (kd := 0) (As := [.int x3]) rfl (ckd_of e2) kMp_requireField (gT_in 735 (by decide +kernel) rfl) nMp_requireField lMp_requireField mMp_requireField rfl (show decode (tC tMp_state) 39 = .ok (.invokevirtual 85, 3) by decide +kernel)) ⟨by rw [hR]; decide, by rw [hR]; decide, by rw [hR]; decide, by rw [hR]; decide⟩ (Nat.le_of_ble_eq_true rfl) rfl
def fMp_state_20  (x0 : Nat) (x1 : Int32) (x2 : Int32) (x3 : Int32) (x4 : Int32) (x5 : Int32) (x6 : Int32) (S : Sx) : Option (Nat × Int32 × Sx) :=
    if x6 ≤ 1 then
    (fMp_state_31  x0 x1 x2 x3 x4 x5 x6 S)
    else
    ((ckd S x0 0).bind fun _ =>
    bdT (fMp_requireField x0 x2 S) fun r4 S5 =>
    fMp_state_31  x0 x1 x2 x3 x4 x5 x6 S5)
set_option maxRecDepth 100000 in
set_option maxHeartbeats 4000000 in
theorem wMp_state_20 {Γ : vG} (hR : gR Γ = rMp_state) (hl : (gl Γ).flags = pinnedFlags ++ [noTraceFlag]) {X : Nat × Int32 × Sx}  : ∀ (x0 : Nat) (x1 : Int32) (x2 : Int32) (x3 : Int32) (x4 : Int32) (x5 : Int32) (x6 : Int32) (S : Sx), fMp_state_20  x0 x1 x2 x3 x4 x5 x6 S = some X → vV Γ tMp_state (mQ Γ (if X.1 = 0 then 0 else 1) (if X.1 = 0 then 0 else 6) X.1 (some (.int X.2.1)) X.2.2) S 0 0 20 [(0, .ref x0), (1, .int x1), (2, .int x2), (3, .int x3), (4, .int x4), (5, .int x5), (6, .int x6)] [] := by
  intro x0 x1 x2 x3 x4 x5 x6 S h
  unfold fMp_state_20 at h
  refine v_iload (pc := 20) (show decode (tC tMp_state) 20 = .ok (.iload 6, 2) by decide +kernel) 6 rfl ?_
  refine v_iconst (pc := 22) (v := 1) (show decode (tC tMp_state) 22 = .ok (.iconst 1, 1) by decide +kernel) (by decide) ?_
  refine v_icmp_le (pc := 23) 31 (show decode (tC tMp_state) 23 = .ok (.if_icmp .le 8, 3) by decide +kernel) (by decide) (fun c => ?_) (fun c => ?_)
  · replace h := ite_t c h
    exact wMp_state_31 hR hl  x0 x1 x2 x3 x4 x5 x6 S h
  · replace h := ite_f c h
    refine v_aload_n (pc := 26) (show decode (tC tMp_state) 26 = .ok (.aload_n 0, 1) by decide +kernel) 0 rfl rfl ?_
    refine v_iload_n (pc := 27) (show decode (tC tMp_state) 27 = .ok (.iload_n 2, 1) by decide +kernel) 2 rfl rfl ?_
    obtain ⟨_, e2, h⟩ := ob h
    obtain ⟨k3, r4, S5, e1, ⟨hk, h⟩ | ⟨hk, h⟩⟩ := obT h
    · subst hk
      refine v_callR (pc := 28) (mc := 1) (ms := 6) (v := none) (y := yMp_requireField) (θ' := tMp_requireField) (rm := rMp_requireField) (av := [.ref x0, .int x2]) (st := []) (cMp_requireField (l := gl Γ) hl e1) kMp_requireField iMp_requireField (iv_virt (y := yMp_requireField) (θ' := tMp_requireField) (kd := 0) (As := [.int x2]) rfl (ckd_of e2) kMp_requireField (gT_in 735 (by decide +kernel) rfl) nMp_requireField lMp_requireField mMp_requireField rfl (show decode (tC tMp_state) 28 = .ok (.invokevirtual 85, 3) by decide +kernel)) ⟨by rw [hR]; decide, by rw [hR]; decide, by rw [hR]; decide, by rw [hR]; decide⟩ (Nat.le_of_ble_eq_true rfl) ?_
      exact wMp_state_31 hR hl  x0 x1 x2 x3 x4 x5 x6 S5 h
    · subst h
      exact v_callT (pc := 28) (mc := 1) (ms := 6) hk (y := yMp_requireField) (θ' := tMp_requireField) (rm := rMp_requireField) (av := [.ref x0, .int x2]) (st := []) (cMp_requireField (l := gl Γ) hl e1) kMp_requireField iMp_requireField (iv_virt (y := yMp_requireField) (θ' := tMp_requireField) (kd := 0) (As := [.int x2]) rfl (ckd_of e2) kMp_requireField (gT_in 735 (by decide +kernel) rfl) nMp_requireField lMp_requireField mMp_requireField rfl (show decode (tC tMp_state) 28 = .ok (.invokevirtual 85, 3) by decide +kernel)) ⟨by rw [hR]; decide, by rw [hR]; decide, by rw [hR]; decide, by rw [hR]; decide⟩ (Nat.le_of_ble_eq_true rfl) rfl
def fMp_state (x0 : Nat) (x1 : Int32) (x2 : Int32) (x3 : Int32) (x4 : Int32) (x5 : Int32) (S : Sx) : Option (Nat × Int32 × Sx) :=
    bd2 (fMp_beforeNone x1 x2 x3 x4 S) fun r2 S3 =>
    if r2 ≤ 0 then
    (fMp_state_20  x0 x1 x2 x3 x4 x5 r2 S3)
    else
    ((ckd S3 x0 0).bind fun _ =>
    bdT (fMp_requireField x0 x1 S3) fun r7 S8 =>
    fMp_state_20  x0 x1 x2 x3 x4 x5 r2 S8)
set_option maxRecDepth 100000 in
set_option maxHeartbeats 4000000 in
theorem wMp_state {Γ : vG} (hR : gR Γ = rMp_state) (hl : (gl Γ).flags = pinnedFlags ++ [noTraceFlag]) (x0 : Nat) (x1 : Int32) (x2 : Int32) (x3 : Int32) (x4 : Int32) (x5 : Int32) (S : Sx) {X : Nat × Int32 × Sx} (h : fMp_state x0 x1 x2 x3 x4 x5 S = some X) : vV Γ tMp_state (mQ Γ (if X.1 = 0 then 0 else 1) (if X.1 = 0 then 0 else 6) X.1 (some (.int X.2.1)) X.2.2) S 0 0 0 [(0, .ref x0), (1, .int x1), (2, .int x2), (3, .int x3), (4, .int x4), (5, .int x5)] [] := by
  unfold fMp_state at h
  refine v_iload_n (pc := 0) (show decode (tC tMp_state) 0 = .ok (.iload_n 1, 1) by decide +kernel) 1 rfl rfl ?_
  refine v_iload_n (pc := 1) (show decode (tC tMp_state) 1 = .ok (.iload_n 2, 1) by decide +kernel) 2 rfl rfl ?_
  refine v_iload_n (pc := 2) (show decode (tC tMp_state) 2 = .ok (.iload_n 3, 1) by decide +kernel) 3 rfl rfl ?_
  refine v_iload (pc := 3) (show decode (tC tMp_state) 3 = .ok (.iload 4, 2) by decide +kernel) 4 rfl ?_
  obtain ⟨r2, S3, e1, h⟩ := ob2 h
  refine v_call (pc := 5) (v := (some (.int r2))) (y := yMp_beforeNone) (θ' := tMp_beforeNone) (rm := rMp_beforeNone) (av := [.int x1, .int x2, .int x3, .int x4]) (st := []) (cMp_beforeNone (l := gl Γ) hl e1) kMp_beforeNone iMp_beforeNone (iv_static (y := yMp_beforeNone) (θ' := tMp_beforeNone) (n := 4) (As := [.int x1, .int x2, .int x3, .int x4]) kMp_beforeNone (gT_in 732 (by decide +kernel) rfl) sMp_beforeNone iMp_beforeNone mMp_beforeNone rfl (show decode (tC tMp_state) 5 = .ok (.invokestatic 81, 3) by decide +kernel)) ⟨by rw [hR]; decide, by rw [hR]; decide, by rw [hR]; decide, by rw [hR]; decide⟩ (Nat.le_of_ble_eq_true rfl) ?_
  refine v_istore (pc := 8) [(6, .int r2), (0, .ref x0), (1, .int x1), (2, .int x2), (3, .int x3), (4, .int x4), (5, .int x5)] (show decode (tC tMp_state) 8 = .ok (.istore 6, 2) by decide +kernel) (by decide) rfl ?_
  refine v_iload (pc := 10) (show decode (tC tMp_state) 10 = .ok (.iload 6, 2) by decide +kernel) 0 rfl ?_
  refine v_if_le (pc := 12) 20 (show decode (tC tMp_state) 12 = .ok (.ifCond .le 8, 3) by decide +kernel) (by decide) (fun c => ?_) (fun c => ?_)
  · replace h := ite_t c h
    refine v_sub [(0, .ref x0), (1, .int x1), (2, .int x2), (3, .int x3), (4, .int x4), (5, .int x5), (6, .int r2)] [1, 2, 3, 4, 5, 6, 0] rfl ?_
    exact wMp_state_20 hR hl  x0 x1 x2 x3 x4 x5 r2 S3 h
  · replace h := ite_f c h
    refine v_aload_n (pc := 15) (show decode (tC tMp_state) 15 = .ok (.aload_n 0, 1) by decide +kernel) 1 rfl rfl ?_
    refine v_iload_n (pc := 16) (show decode (tC tMp_state) 16 = .ok (.iload_n 1, 1) by decide +kernel) 2 rfl rfl ?_
    obtain ⟨_, e5, h⟩ := ob h
    obtain ⟨k6, r7, S8, e4, ⟨hk, h⟩ | ⟨hk, h⟩⟩ := obT h
    · subst hk
      refine v_callR (pc := 17) (mc := 1) (ms := 6) (v := none) (y := yMp_requireField) (θ' := tMp_requireField) (rm := rMp_requireField) (av := [.ref x0, .int x1]) (st := []) (cMp_requireField (l := gl Γ) hl e4) kMp_requireField iMp_requireField (iv_virt (y := yMp_requireField) (θ' := tMp_requireField) (kd := 0) (As := [.int x1]) rfl (ckd_of e5) kMp_requireField (gT_in 735 (by decide +kernel) rfl) nMp_requireField lMp_requireField mMp_requireField rfl (show decode (tC tMp_state) 17 = .ok (.invokevirtual 85, 3) by decide +kernel)) ⟨by rw [hR]; decide, by rw [hR]; decide, by rw [hR]; decide, by rw [hR]; decide⟩ (Nat.le_of_ble_eq_true rfl) ?_
      refine v_sub [(0, .ref x0), (1, .int x1), (2, .int x2), (3, .int x3), (4, .int x4), (5, .int x5), (6, .int r2)] [1, 2, 3, 4, 5, 6, 0] rfl ?_
      exact wMp_state_20 hR hl  x0 x1 x2 x3 x4 x5 r2 S8 h
    · subst h
      exact v_callT (pc := 17) (mc := 1) (ms := 6) hk (y := yMp_requireField) (θ' := tMp_requireField) (rm := rMp_requireField) (av := [.ref x0, .int x1]) (st := []) (cMp_requireField (l := gl Γ) hl e4) kMp_requireField iMp_requireField (iv_virt (y := yMp_requireField) (θ' := tMp_requireField) (kd := 0) (As := [.int x1]) rfl (ckd_of e5) kMp_requireField (gT_in 735 (by decide +kernel) rfl) nMp_requireField lMp_requireField mMp_requireField rfl (show decode (tC tMp_state) 17 = .ok (.invokevirtual 85, 3) by decide +kernel)) ⟨by rw [hR]; decide, by rw [hR]; decide, by rw [hR]; decide, by rw [hR]; decide⟩ (Nat.le_of_ble_eq_true rfl) rfl
theorem cMp_state {l : Launch} (hl : l.flags = pinnedFlags ++ [noTraceFlag]) {D : va_G} {dA : Nat → ClassId} {B : Nat} {x0 : Nat} {x1 : Int32} {x2 : Int32} {x3 : Int32} {x4 : Int32} {x5 : Int32} {S : Sx} {X : Nat × Int32 × Sx} (h : fMp_state x0 x1 x2 x3 x4 x5 S = some X) : Mx l yMp_state tMp_state rMp_state (if X.1 = 0 then 0 else 1) (if X.1 = 0 then 0 else 6) D dA B S [.ref x0, .int x1, .int x2, .int x3, .int x4, .int x5] X.1 (some (.int X.2.1)) X.2.2 :=
  mx_of hl (by decide) rfl rfl (Nat.le_of_ble_eq_true rfl) (fun Γ e1 e2 e3 e4 e5 => by subst e1; subst e3; subst e4; subst e5; exact wMp_state e2 hl x0 x1 x2 x3 x4 x5 S h)
/-! MatchPipe.requireWay(II)V -/
def yMp_requireWay : MethodName := ⟨"MatchPipe", "requireWay", "(II)V"⟩
def tMp_requireWay : tM := (prog_1_method_34_code, "MatchPipe", 3, "requireWay", none, [])
def rMp_requireWay : Room := { frames := 6, cells := 1, slots := 6, locals := 110 }
theorem kMp_requireWay : cOf yMp_requireWay tMp_requireWay ∈ gT := gT_in 773 (by decide +kernel) rfl
theorem iMp_requireWay : Cond.initialized yMp_requireWay.cls ∈ gT := gT_in 55 (by decide +kernel) rfl
theorem mMp_requireWay : okM yMp_requireWay 2 := ⟨by decide, by decide, by unfold nPar; decide +kernel⟩
theorem nMp_requireWay : Cond.instanceMethod yMp_requireWay ∈ gT := gT_in 772 (by decide +kernel) rfl
theorem lMp_requireWay : Cond.selects "MatchPipe" yMp_requireWay yMp_requireWay ∈ gT := gT_in 6 (by decide +kernel) rfl
def fMp_requireWay_15   (S : Sx) : Option (Nat × Int32 × Sx) :=
    some (3, 0, nx S)
set_option maxRecDepth 100000 in
set_option maxHeartbeats 4000000 in
theorem wMp_requireWay_15 {Γ : vG} (hR : gR Γ = rMp_requireWay) (hl : (gl Γ).flags = pinnedFlags ++ [noTraceFlag]) {X : Nat × Int32 × Sx}  : ∀  (S : Sx), fMp_requireWay_15   S = some X → vV Γ tMp_requireWay (mQ Γ (if X.1 = 0 then 0 else 1) (if X.1 = 0 then 0 else 6) X.1 none X.2.2) S 0 0 15 [] [] := by
  intro  S h
  unfold fMp_requireWay_15 at h
  obtain rfl := Option.some.inj h
  exact v_throw0 (pc := 15) (k := 3) (pc2 := 22) (own := "MatchPipe") (tx := "no such state") rfl ex_3 rfl (strs_in 4 rfl) (show decode (tC tMp_requireWay) 15 = .ok (.new 134, 3) by decide +kernel) (show decode (tC tMp_requireWay) 18 = .ok (.dup, 1) by decide +kernel) (Or.inr ⟨(show decode (tC tMp_requireWay) 19 = .ok (.ldc_w 346, 3) by decide +kernel), rfl⟩) (show decode (tC tMp_requireWay) 22 = .ok (.invokespecial 138, 3) by decide +kernel) (show decode (tC tMp_requireWay) 25 = .ok (.athrow, 1) by decide +kernel) (by rw [hR]; decide) (by rw [hR]; decide) (by rw [hR]; decide) (by rw [hR]; decide)
def fMp_requireWay_38   (S : Sx) : Option (Nat × Int32 × Sx) :=
    some (3, 0, nx S)
set_option maxRecDepth 100000 in
set_option maxHeartbeats 4000000 in
theorem wMp_requireWay_38 {Γ : vG} (hR : gR Γ = rMp_requireWay) (hl : (gl Γ).flags = pinnedFlags ++ [noTraceFlag]) {X : Nat × Int32 × Sx}  : ∀  (S : Sx), fMp_requireWay_38   S = some X → vV Γ tMp_requireWay (mQ Γ (if X.1 = 0 then 0 else 1) (if X.1 = 0 then 0 else 6) X.1 none X.2.2) S 0 0 38 [] [] := by
  intro  S h
  unfold fMp_requireWay_38 at h
  obtain rfl := Option.some.inj h
  exact v_throw0 (pc := 38) (k := 3) (pc2 := 45) (own := "MatchPipe") (tx := "that can't come next") rfl ex_3 rfl (strs_in 5 rfl) (show decode (tC tMp_requireWay) 38 = .ok (.new 134, 3) by decide +kernel) (show decode (tC tMp_requireWay) 41 = .ok (.dup, 1) by decide +kernel) (Or.inr ⟨(show decode (tC tMp_requireWay) 42 = .ok (.ldc_w 348, 3) by decide +kernel), rfl⟩) (show decode (tC tMp_requireWay) 45 = .ok (.invokespecial 138, 3) by decide +kernel) (show decode (tC tMp_requireWay) 48 = .ok (.athrow, 1) by decide +kernel) (by rw [hR]; decide) (by rw [hR]; decide) (by rw [hR]; decide) (by rw [hR]; decide)
def fMp_requireWay (x0 : Nat) (x1 : Int32) (x2 : Int32) (S : Sx) : Option (Nat × Int32 × Sx) :=
    if x1 < 0 then
    (fMp_requireWay_15  S)
    else
    ((gX S 0 1 x0).bind fun v1 =>
    (gI S 1 6 v1).bind fun v3 =>
    if x1 < v3 then
    (if x2 < (-2) then
    (fMp_requireWay_38  S)
    else
    (if x2 < 8 then
    (some (0, 0, S))
    else
    (fMp_requireWay_38  S)))
    else
    (fMp_requireWay_15  S))
set_option maxRecDepth 100000 in
set_option maxHeartbeats 4000000 in
theorem wMp_requireWay {Γ : vG} (hR : gR Γ = rMp_requireWay) (hl : (gl Γ).flags = pinnedFlags ++ [noTraceFlag]) (x0 : Nat) (x1 : Int32) (x2 : Int32) (S : Sx) {X : Nat × Int32 × Sx} (h : fMp_requireWay x0 x1 x2 S = some X) : vV Γ tMp_requireWay (mQ Γ (if X.1 = 0 then 0 else 1) (if X.1 = 0 then 0 else 6) X.1 none X.2.2) S 0 0 0 [(0, .ref x0), (1, .int x1), (2, .int x2)] [] := by
  unfold fMp_requireWay at h
  refine v_iload_n (pc := 0) (show decode (tC tMp_requireWay) 0 = .ok (.iload_n 1, 1) by decide +kernel) 1 rfl rfl ?_
  refine v_if_lt (pc := 1) 15 (show decode (tC tMp_requireWay) 1 = .ok (.ifCond .lt 14, 3) by decide +kernel) (by decide) (fun c => ?_) (fun c => ?_)
  · replace h := ite_t c h
    refine v_sub [] [] rfl ?_
    exact wMp_requireWay_15 hR hl  S h
  · replace h := ite_f c h
    refine v_iload_n (pc := 4) (show decode (tC tMp_requireWay) 4 = .ok (.iload_n 1, 1) by decide +kernel) 1 rfl rfl ?_
    refine v_aload_n (pc := 5) (show decode (tC tMp_requireWay) 5 = .ok (.aload_n 0, 1) by decide +kernel) 0 rfl rfl ?_
    obtain ⟨v1, e2, h⟩ := ob h
    refine v_getX (pc := 6) oF_Mp_20 e2 (show decode (tC tMp_requireWay) 6 = .ok (.getfield 20, 3) by decide +kernel) ?_
    obtain ⟨v3, e4, h⟩ := ob h
    refine v_getI (pc := 9) oF_Mp_89 (by decide) e4 (show decode (tC tMp_requireWay) 9 = .ok (.getfield 89, 3) by decide +kernel) ?_
    refine v_icmp_lt (pc := 12) 26 (show decode (tC tMp_requireWay) 12 = .ok (.if_icmp .lt 14, 3) by decide +kernel) (by decide) (fun c => ?_) (fun c => ?_)
    · replace h := ite_t c h
      refine v_iload_n (pc := 26) (show decode (tC tMp_requireWay) 26 = .ok (.iload_n 2, 1) by decide +kernel) 2 rfl rfl ?_
      refine v_bipush (pc := 27) (v := (-2)) (show decode (tC tMp_requireWay) 27 = .ok (.bipush (-2), 2) by decide +kernel) (by decide) ?_
      refine v_icmp_lt (pc := 29) 38 (show decode (tC tMp_requireWay) 29 = .ok (.if_icmp .lt 9, 3) by decide +kernel) (by decide) (fun c => ?_) (fun c => ?_)
      · replace h := ite_t c h
        refine v_sub [] [] rfl ?_
        exact wMp_requireWay_38 hR hl  S h
      · replace h := ite_f c h
        refine v_iload_n (pc := 32) (show decode (tC tMp_requireWay) 32 = .ok (.iload_n 2, 1) by decide +kernel) 2 rfl rfl ?_
        refine v_bipush (pc := 33) (v := 8) (show decode (tC tMp_requireWay) 33 = .ok (.bipush 8, 2) by decide +kernel) (by decide) ?_
        refine v_icmp_lt (pc := 35) 49 (show decode (tC tMp_requireWay) 35 = .ok (.if_icmp .lt 14, 3) by decide +kernel) (by decide) (fun c => ?_) (fun c => ?_)
        · replace h := ite_t c h
          obtain rfl := Option.some.inj h
          refine v_wide (ce2 := 0) (sl2 := 0) (by decide) (by decide) ?_
          exact v_vret (pc := 49) rfl (show decode (tC tMp_requireWay) 49 = .ok (.return_, 1) by decide +kernel)
        · replace h := ite_f c h
          refine v_sub [] [] rfl ?_
          exact wMp_requireWay_38 hR hl  S h
    · replace h := ite_f c h
      refine v_sub [] [] rfl ?_
      exact wMp_requireWay_15 hR hl  S h
theorem cMp_requireWay {l : Launch} (hl : l.flags = pinnedFlags ++ [noTraceFlag]) {D : va_G} {dA : Nat → ClassId} {B : Nat} {x0 : Nat} {x1 : Int32} {x2 : Int32} {S : Sx} {X : Nat × Int32 × Sx} (h : fMp_requireWay x0 x1 x2 S = some X) : Mx l yMp_requireWay tMp_requireWay rMp_requireWay (if X.1 = 0 then 0 else 1) (if X.1 = 0 then 0 else 6) D dA B S [.ref x0, .int x1, .int x2] X.1 none X.2.2 :=
  mx_of hl (by decide) rfl rfl (Nat.le_of_ble_eq_true rfl) (fun Γ e1 e2 e3 e4 e5 => by subst e1; subst e3; subst e4; subst e5; exact wMp_requireWay e2 hl x0 x1 x2 S h)
/-! MatchPipe.choice(IIII)V -/
def yMp_choice : MethodName := ⟨"MatchPipe", "choice", "(IIII)V"⟩
def tMp_choice : tM := (prog_1_method_5_code, "MatchPipe", 6, "choice", none, [])
def rMp_choice : Room := { frames := 8, cells := 1, slots := 6, locals := 152 }
theorem kMp_choice : cOf yMp_choice tMp_choice ∈ gT := gT_in 769 (by decide +kernel) rfl
theorem iMp_choice : Cond.initialized yMp_choice.cls ∈ gT := gT_in 55 (by decide +kernel) rfl
theorem mMp_choice : okM yMp_choice 4 := ⟨by decide, by decide, by unfold nPar; decide +kernel⟩
theorem nMp_choice : Cond.instanceMethod yMp_choice ∈ gT := gT_in 767 (by decide +kernel) rfl
theorem lMp_choice : Cond.selects "MatchPipe" yMp_choice yMp_choice ∈ gT := gT_in 768 (by decide +kernel) rfl
def fMp_choice (x0 : Nat) (x1 : Int32) (x2 : Int32) (x3 : Int32) (x4 : Int32) (S : Sx) : Option (Nat × Int32 × Sx) :=
    (ckd S x0 0).bind fun _ =>
    bdT (fMp_requireWay x0 x1 x4 S) fun r4 S5 =>
    (gX S5 0 1 x0).bind fun v6 =>
    (gX S5 1 1 v6).bind fun v8 =>
    (aX S5 2 v8 x1).bind fun v10 =>
    (gI S5 2 6 v10).bind fun v12 =>
    (ckd S5 x0 0).bind fun _ =>
    bdT (fMp_refuseBeyond x0 v12 4 S5) fun r17 S18 =>
    (ckd S18 v10 2).bind fun _ =>
    (fSt_addCase v10 x2 x3 x4 S18).bind fun S21 =>
    some (0, 0, S21)
set_option maxRecDepth 100000 in
set_option maxHeartbeats 4000000 in
theorem wMp_choice {Γ : vG} (hR : gR Γ = rMp_choice) (hl : (gl Γ).flags = pinnedFlags ++ [noTraceFlag]) (x0 : Nat) (x1 : Int32) (x2 : Int32) (x3 : Int32) (x4 : Int32) (S : Sx) {X : Nat × Int32 × Sx} (h : fMp_choice x0 x1 x2 x3 x4 S = some X) : vV Γ tMp_choice (mQ Γ (if X.1 = 0 then 0 else 1) (if X.1 = 0 then 0 else 6) X.1 none X.2.2) S 0 0 0 [(0, .ref x0), (1, .int x1), (2, .int x2), (3, .int x3), (4, .int x4)] [] := by
  unfold fMp_choice at h
  refine v_aload_n (pc := 0) (show decode (tC tMp_choice) 0 = .ok (.aload_n 0, 1) by decide +kernel) 0 rfl rfl ?_
  refine v_iload_n (pc := 1) (show decode (tC tMp_choice) 1 = .ok (.iload_n 1, 1) by decide +kernel) 1 rfl rfl ?_
  refine v_iload (pc := 2) (show decode (tC tMp_choice) 2 = .ok (.iload 4, 2) by decide +kernel) 4 rfl ?_
  obtain ⟨_, e2, h⟩ := ob h
  obtain ⟨k3, r4, S5, e1, ⟨hk, h⟩ | ⟨hk, h⟩⟩ := obT h
  · subst hk
    refine v_callR (pc := 4) (mc := 1) (ms := 6) (v := none) (y := yMp_requireWay) (θ' := tMp_requireWay) (rm := rMp_requireWay) (av := [.ref x0, .int x1, .int x4]) (st := []) (cMp_requireWay (l := gl Γ) hl e1) kMp_requireWay iMp_requireWay (iv_virt (y := yMp_requireWay) (θ' := tMp_requireWay) (kd := 0) (As := [.int x1, .int x4]) rfl (ckd_of e2) kMp_requireWay (gT_in 770 (by decide +kernel) rfl) nMp_requireWay lMp_requireWay mMp_requireWay rfl (show decode (tC tMp_choice) 4 = .ok (.invokevirtual 104, 3) by decide +kernel)) ⟨by rw [hR]; decide, by rw [hR]; decide, by rw [hR]; decide, by rw [hR]; decide⟩ (Nat.le_of_ble_eq_true rfl) ?_
    refine v_aload_n (pc := 7) (show decode (tC tMp_choice) 7 = .ok (.aload_n 0, 1) by decide +kernel) 0 rfl rfl ?_
    obtain ⟨v6, e7, h⟩ := ob h
    refine v_getX (pc := 8) oF_Mp_20 e7 (show decode (tC tMp_choice) 8 = .ok (.getfield 20, 3) by decide +kernel) ?_
    obtain ⟨v8, e9, h⟩ := ob h
    refine v_getX (pc := 11) oF_Mp_92 e9 (show decode (tC tMp_choice) 11 = .ok (.getfield 92, 3) by decide +kernel) ?_
    refine v_iload_n (pc := 14) (show decode (tC tMp_choice) 14 = .ok (.iload_n 1, 1) by decide +kernel) 1 rfl rfl ?_
    obtain ⟨v10, e11, h⟩ := ob h
    refine v_aald (pc := 15) (kd := 2) rfl e11 (show decode (tC tMp_choice) 15 = .ok (.aaload, 1) by decide +kernel) ?_
    refine v_astore (pc := 16) [(5, .ref v10), (0, .ref x0), (1, .int x1), (2, .int x2), (3, .int x3), (4, .int x4)] (show decode (tC tMp_choice) 16 = .ok (.astore 5, 2) by decide +kernel) (by decide) rfl ?_
    refine v_aload_n (pc := 18) (show decode (tC tMp_choice) 18 = .ok (.aload_n 0, 1) by decide +kernel) 1 rfl rfl ?_
    refine v_aload (pc := 19) (show decode (tC tMp_choice) 19 = .ok (.aload 5, 2) by decide +kernel) 0 rfl ?_
    obtain ⟨v12, e13, h⟩ := ob h
    refine v_getI (pc := 21) oF_Mp_107 (by decide) e13 (show decode (tC tMp_choice) 21 = .ok (.getfield 107, 3) by decide +kernel) ?_
    refine v_iconst (pc := 24) (v := 4) (show decode (tC tMp_choice) 24 = .ok (.iconst 4, 1) by decide +kernel) (by decide) ?_
    obtain ⟨_, e15, h⟩ := ob h
    obtain ⟨k16, r17, S18, e14, ⟨hk, h⟩ | ⟨hk, h⟩⟩ := obT h
    · subst hk
      refine v_callR (pc := 25) (mc := 1) (ms := 6) (v := none) (y := yMp_refuseBeyond) (θ' := tMp_refuseBeyond) (rm := rMp_refuseBeyond) (av := [.ref x0, .int v12, .int 4]) (st := []) (cMp_refuseBeyond (l := gl Γ) hl e14) kMp_refuseBeyond iMp_refuseBeyond (iv_virt (y := yMp_refuseBeyond) (θ' := tMp_refuseBeyond) (kd := 0) (As := [.int v12, .int 4]) rfl (ckd_of e15) kMp_refuseBeyond (gT_in 699 (by decide +kernel) rfl) nMp_refuseBeyond lMp_refuseBeyond mMp_refuseBeyond rfl (show decode (tC tMp_choice) 25 = .ok (.invokevirtual 73, 3) by decide +kernel)) ⟨by rw [hR]; decide, by rw [hR]; decide, by rw [hR]; decide, by rw [hR]; decide⟩ (Nat.le_of_ble_eq_true rfl) ?_
      refine v_aload (pc := 28) (show decode (tC tMp_choice) 28 = .ok (.aload 5, 2) by decide +kernel) 0 rfl ?_
      refine v_iload_n (pc := 30) (show decode (tC tMp_choice) 30 = .ok (.iload_n 2, 1) by decide +kernel) 3 rfl rfl ?_
      refine v_iload_n (pc := 31) (show decode (tC tMp_choice) 31 = .ok (.iload_n 3, 1) by decide +kernel) 4 rfl rfl ?_
      refine v_iload (pc := 32) (show decode (tC tMp_choice) 32 = .ok (.iload 4, 2) by decide +kernel) 5 rfl ?_
      obtain ⟨_, e20, h⟩ := ob h
      obtain ⟨S21, e19, h⟩ := ob h
      refine v_call (pc := 34) (v := none) (y := ySt_addCase) (θ' := tSt_addCase) (rm := rSt_addCase) (av := [.ref v10, .int x2, .int x3, .int x4]) (st := []) (cSt_addCase (l := gl Γ) hl e19) kSt_addCase iSt_addCase (iv_virt (y := ySt_addCase) (θ' := tSt_addCase) (kd := 2) (As := [.int x2, .int x3, .int x4]) rfl (ckd_of e20) kSt_addCase (gT_in 776 (by decide +kernel) rfl) nSt_addCase lSt_addCase mSt_addCase rfl (show decode (tC tMp_choice) 34 = .ok (.invokevirtual 110, 3) by decide +kernel)) ⟨by rw [hR]; decide, by rw [hR]; decide, by rw [hR]; decide, by rw [hR]; decide⟩ (Nat.le_of_ble_eq_true rfl) ?_
      obtain rfl := Option.some.inj h
      refine v_wide (ce2 := 0) (sl2 := 0) (by decide) (by decide) ?_
      exact v_vret (pc := 37) rfl (show decode (tC tMp_choice) 37 = .ok (.return_, 1) by decide +kernel)
    · subst h
      exact v_callT (pc := 25) (mc := 1) (ms := 6) hk (y := yMp_refuseBeyond) (θ' := tMp_refuseBeyond) (rm := rMp_refuseBeyond) (av := [.ref x0, .int v12, .int 4]) (st := []) (cMp_refuseBeyond (l := gl Γ) hl e14) kMp_refuseBeyond iMp_refuseBeyond (iv_virt (y := yMp_refuseBeyond) (θ' := tMp_refuseBeyond) (kd := 0) (As := [.int v12, .int 4]) rfl (ckd_of e15) kMp_refuseBeyond (gT_in 699 (by decide +kernel) rfl) nMp_refuseBeyond lMp_refuseBeyond mMp_refuseBeyond rfl (show decode (tC tMp_choice) 25 = .ok (.invokevirtual 73, 3) by decide +kernel)) ⟨by rw [hR]; decide, by rw [hR]; decide, by rw [hR]; decide, by rw [hR]; decide⟩ (Nat.le_of_ble_eq_true rfl) rfl
  · subst h
    exact v_callT (pc := 4) (mc := 1) (ms := 6) hk (y := yMp_requireWay) (θ' := tMp_requireWay) (rm := rMp_requireWay) (av := [.ref x0, .int x1, .int x4]) (st := []) (cMp_requireWay (l := gl Γ) hl e1) kMp_requireWay iMp_requireWay (iv_virt (y := yMp_requireWay) (θ' := tMp_requireWay) (kd := 0) (As := [.int x1, .int x4]) rfl (ckd_of e2) kMp_requireWay (gT_in 770 (by decide +kernel) rfl) nMp_requireWay lMp_requireWay mMp_requireWay rfl (show decode (tC tMp_choice) 4 = .ok (.invokevirtual 104, 3) by decide +kernel)) ⟨by rw [hR]; decide, by rw [hR]; decide, by rw [hR]; decide, by rw [hR]; decide⟩ (Nat.le_of_ble_eq_true rfl) rfl
theorem cMp_choice {l : Launch} (hl : l.flags = pinnedFlags ++ [noTraceFlag]) {D : va_G} {dA : Nat → ClassId} {B : Nat} {x0 : Nat} {x1 : Int32} {x2 : Int32} {x3 : Int32} {x4 : Int32} {S : Sx} {X : Nat × Int32 × Sx} (h : fMp_choice x0 x1 x2 x3 x4 S = some X) : Mx l yMp_choice tMp_choice rMp_choice (if X.1 = 0 then 0 else 1) (if X.1 = 0 then 0 else 6) D dA B S [.ref x0, .int x1, .int x2, .int x3, .int x4] X.1 none X.2.2 :=
  mx_of hl (by decide) rfl rfl (Nat.le_of_ble_eq_true rfl) (fun Γ e1 e2 e3 e4 e5 => by subst e1; subst e3; subst e4; subst e5; exact wMp_choice e2 hl x0 x1 x2 x3 x4 S h)
/-! MatchPipe.otherwise(II)V -/
def yMp_otherwise : MethodName := ⟨"MatchPipe", "otherwise", "(II)V"⟩
def tMp_otherwise : tM := (prog_1_method_6_code, "MatchPipe", 3, "otherwise", none, [])
def rMp_otherwise : Room := { frames := 7, cells := 1, slots := 6, locals := 132 }
theorem kMp_otherwise : cOf yMp_otherwise tMp_otherwise ∈ gT := gT_in 786 (by decide +kernel) rfl
theorem iMp_otherwise : Cond.initialized yMp_otherwise.cls ∈ gT := gT_in 55 (by decide +kernel) rfl
theorem mMp_otherwise : okM yMp_otherwise 2 := ⟨by decide, by decide, by unfold nPar; decide +kernel⟩
theorem nMp_otherwise : Cond.instanceMethod yMp_otherwise ∈ gT := gT_in 784 (by decide +kernel) rfl
theorem lMp_otherwise : Cond.selects "MatchPipe" yMp_otherwise yMp_otherwise ∈ gT := gT_in 785 (by decide +kernel) rfl
def fMp_otherwise (x0 : Nat) (x1 : Int32) (x2 : Int32) (S : Sx) : Option (Nat × Int32 × Sx) :=
    (ckd S x0 0).bind fun _ =>
    bdT (fMp_requireWay x0 x1 x2 S) fun r4 S5 =>
    (ckd S5 x0 0).bind fun _ =>
    bdT (fMp_refuseIfLaid x0 S5) fun r9 S10 =>
    (gX S10 0 1 x0).bind fun v11 =>
    (gX S10 1 1 v11).bind fun v13 =>
    (aX S10 2 v13 x1).bind fun v15 =>
    (pI S10 2 7 v15 x2).bind fun S17 =>
    some (0, 0, S17)
set_option maxRecDepth 100000 in
set_option maxHeartbeats 4000000 in
theorem wMp_otherwise {Γ : vG} (hR : gR Γ = rMp_otherwise) (hl : (gl Γ).flags = pinnedFlags ++ [noTraceFlag]) (x0 : Nat) (x1 : Int32) (x2 : Int32) (S : Sx) {X : Nat × Int32 × Sx} (h : fMp_otherwise x0 x1 x2 S = some X) : vV Γ tMp_otherwise (mQ Γ (if X.1 = 0 then 0 else 1) (if X.1 = 0 then 0 else 6) X.1 none X.2.2) S 0 0 0 [(0, .ref x0), (1, .int x1), (2, .int x2)] [] := by
  unfold fMp_otherwise at h
  refine v_aload_n (pc := 0) (show decode (tC tMp_otherwise) 0 = .ok (.aload_n 0, 1) by decide +kernel) 0 rfl rfl ?_
  refine v_iload_n (pc := 1) (show decode (tC tMp_otherwise) 1 = .ok (.iload_n 1, 1) by decide +kernel) 1 rfl rfl ?_
  refine v_iload_n (pc := 2) (show decode (tC tMp_otherwise) 2 = .ok (.iload_n 2, 1) by decide +kernel) 2 rfl rfl ?_
  obtain ⟨_, e2, h⟩ := ob h
  obtain ⟨k3, r4, S5, e1, ⟨hk, h⟩ | ⟨hk, h⟩⟩ := obT h
  · subst hk
    refine v_callR (pc := 3) (mc := 1) (ms := 6) (v := none) (y := yMp_requireWay) (θ' := tMp_requireWay) (rm := rMp_requireWay) (av := [.ref x0, .int x1, .int x2]) (st := []) (cMp_requireWay (l := gl Γ) hl e1) kMp_requireWay iMp_requireWay (iv_virt (y := yMp_requireWay) (θ' := tMp_requireWay) (kd := 0) (As := [.int x1, .int x2]) rfl (ckd_of e2) kMp_requireWay (gT_in 770 (by decide +kernel) rfl) nMp_requireWay lMp_requireWay mMp_requireWay rfl (show decode (tC tMp_otherwise) 3 = .ok (.invokevirtual 104, 3) by decide +kernel)) ⟨by rw [hR]; decide, by rw [hR]; decide, by rw [hR]; decide, by rw [hR]; decide⟩ (Nat.le_of_ble_eq_true rfl) ?_
    refine v_aload_n (pc := 6) (show decode (tC tMp_otherwise) 6 = .ok (.aload_n 0, 1) by decide +kernel) 0 rfl rfl ?_
    obtain ⟨_, e7, h⟩ := ob h
    obtain ⟨k8, r9, S10, e6, ⟨hk, h⟩ | ⟨hk, h⟩⟩ := obT h
    · subst hk
      refine v_callR (pc := 7) (mc := 1) (ms := 6) (v := none) (y := yMp_refuseIfLaid) (θ' := tMp_refuseIfLaid) (rm := rMp_refuseIfLaid) (av := [.ref x0]) (st := []) (cMp_refuseIfLaid (l := gl Γ) hl e6) kMp_refuseIfLaid iMp_refuseIfLaid (iv_virt (y := yMp_refuseIfLaid) (θ' := tMp_refuseIfLaid) (kd := 0) (As := []) rfl (ckd_of e7) kMp_refuseIfLaid (gT_in 703 (by decide +kernel) rfl) nMp_refuseIfLaid lMp_refuseIfLaid mMp_refuseIfLaid rfl (show decode (tC tMp_otherwise) 7 = .ok (.invokevirtual 114, 3) by decide +kernel)) ⟨by rw [hR]; decide, by rw [hR]; decide, by rw [hR]; decide, by rw [hR]; decide⟩ (Nat.le_of_ble_eq_true rfl) ?_
      refine v_aload_n (pc := 10) (show decode (tC tMp_otherwise) 10 = .ok (.aload_n 0, 1) by decide +kernel) 0 rfl rfl ?_
      obtain ⟨v11, e12, h⟩ := ob h
      refine v_getX (pc := 11) oF_Mp_20 e12 (show decode (tC tMp_otherwise) 11 = .ok (.getfield 20, 3) by decide +kernel) ?_
      obtain ⟨v13, e14, h⟩ := ob h
      refine v_getX (pc := 14) oF_Mp_92 e14 (show decode (tC tMp_otherwise) 14 = .ok (.getfield 92, 3) by decide +kernel) ?_
      refine v_iload_n (pc := 17) (show decode (tC tMp_otherwise) 17 = .ok (.iload_n 1, 1) by decide +kernel) 1 rfl rfl ?_
      obtain ⟨v15, e16, h⟩ := ob h
      refine v_aald (pc := 18) (kd := 2) rfl e16 (show decode (tC tMp_otherwise) 18 = .ok (.aaload, 1) by decide +kernel) ?_
      refine v_iload_n (pc := 19) (show decode (tC tMp_otherwise) 19 = .ok (.iload_n 2, 1) by decide +kernel) 2 rfl rfl ?_
      obtain ⟨S17, e18, h⟩ := ob h
      refine v_putI (pc := 20) oF_Mp_117 (fin_ok (kd := 2) (k := 7) (by decide +kernel)) e18 (show decode (tC tMp_otherwise) 20 = .ok (.putfield 117, 3) by decide +kernel) ?_
      obtain rfl := Option.some.inj h
      refine v_wide (ce2 := 0) (sl2 := 0) (by decide) (by decide) ?_
      exact v_vret (pc := 23) rfl (show decode (tC tMp_otherwise) 23 = .ok (.return_, 1) by decide +kernel)
    · subst h
      exact v_callT (pc := 7) (mc := 1) (ms := 6) hk (y := yMp_refuseIfLaid) (θ' := tMp_refuseIfLaid) (rm := rMp_refuseIfLaid) (av := [.ref x0]) (st := []) (cMp_refuseIfLaid (l := gl Γ) hl e6) kMp_refuseIfLaid iMp_refuseIfLaid (iv_virt (y := yMp_refuseIfLaid) (θ' := tMp_refuseIfLaid) (kd := 0) (As := []) rfl (ckd_of e7) kMp_refuseIfLaid (gT_in 703 (by decide +kernel) rfl) nMp_refuseIfLaid lMp_refuseIfLaid mMp_refuseIfLaid rfl (show decode (tC tMp_otherwise) 7 = .ok (.invokevirtual 114, 3) by decide +kernel)) ⟨by rw [hR]; decide, by rw [hR]; decide, by rw [hR]; decide, by rw [hR]; decide⟩ (Nat.le_of_ble_eq_true rfl) rfl
  · subst h
    exact v_callT (pc := 3) (mc := 1) (ms := 6) hk (y := yMp_requireWay) (θ' := tMp_requireWay) (rm := rMp_requireWay) (av := [.ref x0, .int x1, .int x2]) (st := []) (cMp_requireWay (l := gl Γ) hl e1) kMp_requireWay iMp_requireWay (iv_virt (y := yMp_requireWay) (θ' := tMp_requireWay) (kd := 0) (As := [.int x1, .int x2]) rfl (ckd_of e2) kMp_requireWay (gT_in 770 (by decide +kernel) rfl) nMp_requireWay lMp_requireWay mMp_requireWay rfl (show decode (tC tMp_otherwise) 3 = .ok (.invokevirtual 104, 3) by decide +kernel)) ⟨by rw [hR]; decide, by rw [hR]; decide, by rw [hR]; decide, by rw [hR]; decide⟩ (Nat.le_of_ble_eq_true rfl) rfl
theorem cMp_otherwise {l : Launch} (hl : l.flags = pinnedFlags ++ [noTraceFlag]) {D : va_G} {dA : Nat → ClassId} {B : Nat} {x0 : Nat} {x1 : Int32} {x2 : Int32} {S : Sx} {X : Nat × Int32 × Sx} (h : fMp_otherwise x0 x1 x2 S = some X) : Mx l yMp_otherwise tMp_otherwise rMp_otherwise (if X.1 = 0 then 0 else 1) (if X.1 = 0 then 0 else 6) D dA B S [.ref x0, .int x1, .int x2] X.1 none X.2.2 :=
  mx_of hl (by decide) rfl rfl (Nat.le_of_ble_eq_true rfl) (fun Γ e1 e2 e3 e4 e5 => by subst e1; subst e3; subst e4; subst e5; exact wMp_otherwise e2 hl x0 x1 x2 S h)
/-! MatchPipe.action()I -/
def yMp_action : MethodName := ⟨"MatchPipe", "action", "()I"⟩
def tMp_action : tM := (prog_1_method_7_code, "MatchPipe", 1, "action", some .int, [])
def rMp_action : Room := { frames := 8, cells := 1, slots := 6, locals := 152 }
theorem kMp_action : cOf yMp_action tMp_action ∈ gT := gT_in 793 (by decide +kernel) rfl
theorem iMp_action : Cond.initialized yMp_action.cls ∈ gT := gT_in 55 (by decide +kernel) rfl
theorem mMp_action : okM yMp_action 0 := ⟨by decide, by decide, by unfold nPar; decide +kernel⟩
theorem nMp_action : Cond.instanceMethod yMp_action ∈ gT := gT_in 791 (by decide +kernel) rfl
theorem lMp_action : Cond.selects "MatchPipe" yMp_action yMp_action ∈ gT := gT_in 792 (by decide +kernel) rfl
def fMp_action (x0 : Nat) (S : Sx) : Option (Nat × Int32 × Sx) :=
    (gX S 0 1 x0).bind fun v1 =>
    (gI S 1 7 v1).bind fun v3 =>
    (ckd S x0 0).bind fun _ =>
    bdT (fMp_refuseBeyond x0 v3 16 S) fun r8 S9 =>
    (gX S9 0 1 x0).bind fun v10 =>
    (gX S9 1 2 v10).bind fun v12 =>
    (gX S9 0 1 x0).bind fun v14 =>
    (gI S9 1 7 v14).bind fun v16 =>
    (aX S9 3 v12 v16).bind fun v18 =>
    (pI S9 3 4 v18 0).bind fun S20 =>
    (gX S20 0 1 x0).bind fun v22 =>
    (gI S20 1 7 v22).bind fun v24 =>
    (pI S20 1 7 v22 (v24 + 1)).bind fun S26 =>
    some (0, v24, S26)
set_option maxRecDepth 100000 in
set_option maxHeartbeats 4000000 in
theorem wMp_action {Γ : vG} (hR : gR Γ = rMp_action) (hl : (gl Γ).flags = pinnedFlags ++ [noTraceFlag]) (x0 : Nat) (S : Sx) {X : Nat × Int32 × Sx} (h : fMp_action x0 S = some X) : vV Γ tMp_action (mQ Γ (if X.1 = 0 then 0 else 1) (if X.1 = 0 then 0 else 6) X.1 (some (.int X.2.1)) X.2.2) S 0 0 0 [(0, .ref x0)] [] := by
  unfold fMp_action at h
  refine v_aload_n (pc := 0) (show decode (tC tMp_action) 0 = .ok (.aload_n 0, 1) by decide +kernel) 0 rfl rfl ?_
  refine v_aload_n (pc := 1) (show decode (tC tMp_action) 1 = .ok (.aload_n 0, 1) by decide +kernel) 0 rfl rfl ?_
  obtain ⟨v1, e2, h⟩ := ob h
  refine v_getX (pc := 2) oF_Mp_20 e2 (show decode (tC tMp_action) 2 = .ok (.getfield 20, 3) by decide +kernel) ?_
  obtain ⟨v3, e4, h⟩ := ob h
  refine v_getI (pc := 5) oF_Mp_120 (by decide) e4 (show decode (tC tMp_action) 5 = .ok (.getfield 120, 3) by decide +kernel) ?_
  refine v_bipush (pc := 8) (v := 16) (show decode (tC tMp_action) 8 = .ok (.bipush 16, 2) by decide +kernel) (by decide) ?_
  obtain ⟨_, e6, h⟩ := ob h
  obtain ⟨k7, r8, S9, e5, ⟨hk, h⟩ | ⟨hk, h⟩⟩ := obT h
  · subst hk
    refine v_callR (pc := 10) (mc := 1) (ms := 6) (v := none) (y := yMp_refuseBeyond) (θ' := tMp_refuseBeyond) (rm := rMp_refuseBeyond) (av := [.ref x0, .int v3, .int 16]) (st := []) (cMp_refuseBeyond (l := gl Γ) hl e5) kMp_refuseBeyond iMp_refuseBeyond (iv_virt (y := yMp_refuseBeyond) (θ' := tMp_refuseBeyond) (kd := 0) (As := [.int v3, .int 16]) rfl (ckd_of e6) kMp_refuseBeyond (gT_in 699 (by decide +kernel) rfl) nMp_refuseBeyond lMp_refuseBeyond mMp_refuseBeyond rfl (show decode (tC tMp_action) 10 = .ok (.invokevirtual 73, 3) by decide +kernel)) ⟨by rw [hR]; decide, by rw [hR]; decide, by rw [hR]; decide, by rw [hR]; decide⟩ (Nat.le_of_ble_eq_true rfl) ?_
    refine v_aload_n (pc := 13) (show decode (tC tMp_action) 13 = .ok (.aload_n 0, 1) by decide +kernel) 0 rfl rfl ?_
    obtain ⟨v10, e11, h⟩ := ob h
    refine v_getX (pc := 14) oF_Mp_20 e11 (show decode (tC tMp_action) 14 = .ok (.getfield 20, 3) by decide +kernel) ?_
    obtain ⟨v12, e13, h⟩ := ob h
    refine v_getX (pc := 17) oF_Mp_123 e13 (show decode (tC tMp_action) 17 = .ok (.getfield 123, 3) by decide +kernel) ?_
    refine v_aload_n (pc := 20) (show decode (tC tMp_action) 20 = .ok (.aload_n 0, 1) by decide +kernel) 0 rfl rfl ?_
    obtain ⟨v14, e15, h⟩ := ob h
    refine v_getX (pc := 21) oF_Mp_20 e15 (show decode (tC tMp_action) 21 = .ok (.getfield 20, 3) by decide +kernel) ?_
    obtain ⟨v16, e17, h⟩ := ob h
    refine v_getI (pc := 24) oF_Mp_120 (by decide) e17 (show decode (tC tMp_action) 24 = .ok (.getfield 120, 3) by decide +kernel) ?_
    obtain ⟨v18, e19, h⟩ := ob h
    refine v_aald (pc := 27) (kd := 3) rfl e19 (show decode (tC tMp_action) 27 = .ok (.aaload, 1) by decide +kernel) ?_
    refine v_iconst (pc := 28) (v := 0) (show decode (tC tMp_action) 28 = .ok (.iconst 0, 1) by decide +kernel) (by decide) ?_
    obtain ⟨S20, e21, h⟩ := ob h
    refine v_putI (pc := 29) oF_Mp_127 (fin_ok (kd := 3) (k := 4) (by decide +kernel)) e21 (show decode (tC tMp_action) 29 = .ok (.putfield 127, 3) by decide +kernel) ?_
    refine v_aload_n (pc := 32) (show decode (tC tMp_action) 32 = .ok (.aload_n 0, 1) by decide +kernel) 0 rfl rfl ?_
    obtain ⟨v22, e23, h⟩ := ob h
    refine v_getX (pc := 33) oF_Mp_20 e23 (show decode (tC tMp_action) 33 = .ok (.getfield 20, 3) by decide +kernel) ?_
    refine v_dup (pc := 36) (show decode (tC tMp_action) 36 = .ok (.dup, 1) by decide +kernel) rfl ?_
    obtain ⟨v24, e25, h⟩ := ob h
    refine v_getI (pc := 37) oF_Mp_120 (by decide) e25 (show decode (tC tMp_action) 37 = .ok (.getfield 120, 3) by decide +kernel) ?_
    refine v_dup_x1 (pc := 40) (show decode (tC tMp_action) 40 = .ok (.dup_x1, 1) by decide +kernel) rfl rfl ?_
    refine v_iconst (pc := 41) (v := 1) (show decode (tC tMp_action) 41 = .ok (.iconst 1, 1) by decide +kernel) (by decide) ?_
    refine v_iadd (pc := 42) (show decode (tC tMp_action) 42 = .ok (.iadd, 1) by decide +kernel) ?_
    obtain ⟨S26, e27, h⟩ := ob h
    refine v_putI (pc := 43) oF_Mp_120 (fin_ok (kd := 1) (k := 7) (by decide +kernel)) e27 (show decode (tC tMp_action) 43 = .ok (.putfield 120, 3) by decide +kernel) ?_
    obtain rfl := Option.some.inj h
    refine v_wide (ce2 := 0) (sl2 := 0) (by decide) (by decide) ?_
    exact v_iret (pc := 46) rfl (show decode (tC tMp_action) 46 = .ok (.ireturn, 1) by decide +kernel)
  · subst h
    exact v_callT (pc := 10) (mc := 1) (ms := 6) hk (y := yMp_refuseBeyond) (θ' := tMp_refuseBeyond) (rm := rMp_refuseBeyond) (av := [.ref x0, .int v3, .int 16]) (st := []) (cMp_refuseBeyond (l := gl Γ) hl e5) kMp_refuseBeyond iMp_refuseBeyond (iv_virt (y := yMp_refuseBeyond) (θ' := tMp_refuseBeyond) (kd := 0) (As := [.int v3, .int 16]) rfl (ckd_of e6) kMp_refuseBeyond (gT_in 699 (by decide +kernel) rfl) nMp_refuseBeyond lMp_refuseBeyond mMp_refuseBeyond rfl (show decode (tC tMp_action) 10 = .ok (.invokevirtual 73, 3) by decide +kernel)) ⟨by rw [hR]; decide, by rw [hR]; decide, by rw [hR]; decide, by rw [hR]; decide⟩ (Nat.le_of_ble_eq_true rfl) rfl
theorem cMp_action {l : Launch} (hl : l.flags = pinnedFlags ++ [noTraceFlag]) {D : va_G} {dA : Nat → ClassId} {B : Nat} {x0 : Nat} {S : Sx} {X : Nat × Int32 × Sx} (h : fMp_action x0 S = some X) : Mx l yMp_action tMp_action rMp_action (if X.1 = 0 then 0 else 1) (if X.1 = 0 then 0 else 6) D dA B S [.ref x0] X.1 (some (.int X.2.1)) X.2.2 :=
  mx_of hl (by decide) rfl rfl (Nat.le_of_ble_eq_true rfl) (fun Γ e1 e2 e3 e4 e5 => by subst e1; subst e3; subst e4; subst e5; exact wMp_action e2 hl x0 S h)
/-! MatchPipe.doing(IIIII)V -/
def yMp_doing : MethodName := ⟨"MatchPipe", "doing", "(IIIII)V"⟩
def tMp_doing : tM := (prog_1_method_8_code, "MatchPipe", 7, "doing", none, [])
def rMp_doing : Room := { frames := 8, cells := 1, slots := 6, locals := 152 }
theorem kMp_doing : cOf yMp_doing tMp_doing ∈ gT := gT_in 800 (by decide +kernel) rfl
theorem iMp_doing : Cond.initialized yMp_doing.cls ∈ gT := gT_in 55 (by decide +kernel) rfl
theorem mMp_doing : okM yMp_doing 5 := ⟨by decide, by decide, by unfold nPar; decide +kernel⟩
theorem nMp_doing : Cond.instanceMethod yMp_doing ∈ gT := gT_in 798 (by decide +kernel) rfl
theorem lMp_doing : Cond.selects "MatchPipe" yMp_doing yMp_doing ∈ gT := gT_in 799 (by decide +kernel) rfl
def fMp_doing_10   (S : Sx) : Option (Nat × Int32 × Sx) :=
    some (1, 0, nx S)
set_option maxRecDepth 100000 in
set_option maxHeartbeats 4000000 in
theorem wMp_doing_10 {Γ : vG} (hR : gR Γ = rMp_doing) (hl : (gl Γ).flags = pinnedFlags ++ [noTraceFlag]) {X : Nat × Int32 × Sx}  : ∀  (S : Sx), fMp_doing_10   S = some X → vV Γ tMp_doing (mQ Γ (if X.1 = 0 then 0 else 1) (if X.1 = 0 then 0 else 6) X.1 none X.2.2) S 0 0 10 [] [] := by
  intro  S h
  unfold fMp_doing_10 at h
  obtain rfl := Option.some.inj h
  exact v_throw0 (pc := 10) (k := 1) (pc2 := 16) (own := "MatchPipe") (tx := "no such kind of doing") rfl ex_1 rfl (strs_in 6 rfl) (show decode (tC tMp_doing) 10 = .ok (.new 63, 3) by decide +kernel) (show decode (tC tMp_doing) 13 = .ok (.dup, 1) by decide +kernel) (Or.inl ⟨(show decode (tC tMp_doing) 14 = .ok (.ldc 132, 2) by decide +kernel), rfl⟩) (show decode (tC tMp_doing) 16 = .ok (.invokespecial 67, 3) by decide +kernel) (show decode (tC tMp_doing) 19 = .ok (.athrow, 1) by decide +kernel) (by rw [hR]; decide) (by rw [hR]; decide) (by rw [hR]; decide) (by rw [hR]; decide)
def fMp_doing_35   (S : Sx) : Option (Nat × Int32 × Sx) :=
    some (3, 0, nx S)
set_option maxRecDepth 100000 in
set_option maxHeartbeats 4000000 in
theorem wMp_doing_35 {Γ : vG} (hR : gR Γ = rMp_doing) (hl : (gl Γ).flags = pinnedFlags ++ [noTraceFlag]) {X : Nat × Int32 × Sx}  : ∀  (S : Sx), fMp_doing_35   S = some X → vV Γ tMp_doing (mQ Γ (if X.1 = 0 then 0 else 1) (if X.1 = 0 then 0 else 6) X.1 none X.2.2) S 0 0 35 [] [] := by
  intro  S h
  unfold fMp_doing_35 at h
  obtain rfl := Option.some.inj h
  exact v_throw0 (pc := 35) (k := 3) (pc2 := 41) (own := "MatchPipe") (tx := "no such action") rfl ex_3 rfl (strs_in 7 rfl) (show decode (tC tMp_doing) 35 = .ok (.new 134, 3) by decide +kernel) (show decode (tC tMp_doing) 38 = .ok (.dup, 1) by decide +kernel) (Or.inl ⟨(show decode (tC tMp_doing) 39 = .ok (.ldc 136, 2) by decide +kernel), rfl⟩) (show decode (tC tMp_doing) 41 = .ok (.invokespecial 138, 3) by decide +kernel) (show decode (tC tMp_doing) 44 = .ok (.athrow, 1) by decide +kernel) (by rw [hR]; decide) (by rw [hR]; decide) (by rw [hR]; decide) (by rw [hR]; decide)
def fMp_doing (x0 : Nat) (x1 : Int32) (x2 : Int32) (x3 : Int32) (x4 : Int32) (x5 : Int32) (S : Sx) : Option (Nat × Int32 × Sx) :=
    if x2 < 0 then
    (fMp_doing_10  S)
    else
    (if x2 ≤ 8 then
    (if x1 < 0 then
    (fMp_doing_35  S)
    else
    ((gX S 0 1 x0).bind fun v1 =>
    (gI S 1 7 v1).bind fun v3 =>
    if x1 < v3 then
    ((gX S 0 1 x0).bind fun v5 =>
    (ckd S v5 1).bind fun _ =>
    bd2 (fPr_canDo v5 x2 x3 x4 x5 S) fun r9 S10 =>
    if r9 = 0 then
    (some (3, 0, nx S10))
    else
    ((gX S10 0 1 x0).bind fun v11 =>
    (gX S10 1 2 v11).bind fun v13 =>
    (aX S10 3 v13 x1).bind fun v15 =>
    (gI S10 3 4 v15).bind fun v17 =>
    (ckd S10 x0 0).bind fun _ =>
    bdT (fMp_refuseBeyond x0 v17 4 S10) fun r22 S23 =>
    (ckd S23 v15 3).bind fun _ =>
    (fAc_addDoing v15 x2 x3 x4 x5 S23).bind fun S26 =>
    some (0, 0, S26)))
    else
    (fMp_doing_35  S)))
    else
    (fMp_doing_10  S))
set_option maxRecDepth 100000 in
set_option maxHeartbeats 4000000 in
theorem wMp_doing {Γ : vG} (hR : gR Γ = rMp_doing) (hl : (gl Γ).flags = pinnedFlags ++ [noTraceFlag]) (x0 : Nat) (x1 : Int32) (x2 : Int32) (x3 : Int32) (x4 : Int32) (x5 : Int32) (S : Sx) {X : Nat × Int32 × Sx} (h : fMp_doing x0 x1 x2 x3 x4 x5 S = some X) : vV Γ tMp_doing (mQ Γ (if X.1 = 0 then 0 else 1) (if X.1 = 0 then 0 else 6) X.1 none X.2.2) S 0 0 0 [(0, .ref x0), (1, .int x1), (2, .int x2), (3, .int x3), (4, .int x4), (5, .int x5)] [] := by
  unfold fMp_doing at h
  refine v_iload_n (pc := 0) (show decode (tC tMp_doing) 0 = .ok (.iload_n 2, 1) by decide +kernel) 2 rfl rfl ?_
  refine v_if_lt (pc := 1) 10 (show decode (tC tMp_doing) 1 = .ok (.ifCond .lt 9, 3) by decide +kernel) (by decide) (fun c => ?_) (fun c => ?_)
  · replace h := ite_t c h
    refine v_sub [] [] rfl ?_
    exact wMp_doing_10 hR hl  S h
  · replace h := ite_f c h
    refine v_iload_n (pc := 4) (show decode (tC tMp_doing) 4 = .ok (.iload_n 2, 1) by decide +kernel) 2 rfl rfl ?_
    refine v_bipush (pc := 5) (v := 8) (show decode (tC tMp_doing) 5 = .ok (.bipush 8, 2) by decide +kernel) (by decide) ?_
    refine v_icmp_le (pc := 7) 20 (show decode (tC tMp_doing) 7 = .ok (.if_icmp .le 13, 3) by decide +kernel) (by decide) (fun c => ?_) (fun c => ?_)
    · replace h := ite_t c h
      refine v_iload_n (pc := 20) (show decode (tC tMp_doing) 20 = .ok (.iload_n 1, 1) by decide +kernel) 1 rfl rfl ?_
      refine v_if_lt (pc := 21) 35 (show decode (tC tMp_doing) 21 = .ok (.ifCond .lt 14, 3) by decide +kernel) (by decide) (fun c => ?_) (fun c => ?_)
      · replace h := ite_t c h
        refine v_sub [] [] rfl ?_
        exact wMp_doing_35 hR hl  S h
      · replace h := ite_f c h
        refine v_iload_n (pc := 24) (show decode (tC tMp_doing) 24 = .ok (.iload_n 1, 1) by decide +kernel) 1 rfl rfl ?_
        refine v_aload_n (pc := 25) (show decode (tC tMp_doing) 25 = .ok (.aload_n 0, 1) by decide +kernel) 0 rfl rfl ?_
        obtain ⟨v1, e2, h⟩ := ob h
        refine v_getX (pc := 26) oF_Mp_20 e2 (show decode (tC tMp_doing) 26 = .ok (.getfield 20, 3) by decide +kernel) ?_
        obtain ⟨v3, e4, h⟩ := ob h
        refine v_getI (pc := 29) oF_Mp_120 (by decide) e4 (show decode (tC tMp_doing) 29 = .ok (.getfield 120, 3) by decide +kernel) ?_
        refine v_icmp_lt (pc := 32) 45 (show decode (tC tMp_doing) 32 = .ok (.if_icmp .lt 13, 3) by decide +kernel) (by decide) (fun c => ?_) (fun c => ?_)
        · replace h := ite_t c h
          refine v_aload_n (pc := 45) (show decode (tC tMp_doing) 45 = .ok (.aload_n 0, 1) by decide +kernel) 0 rfl rfl ?_
          obtain ⟨v5, e6, h⟩ := ob h
          refine v_getX (pc := 46) oF_Mp_20 e6 (show decode (tC tMp_doing) 46 = .ok (.getfield 20, 3) by decide +kernel) ?_
          refine v_iload_n (pc := 49) (show decode (tC tMp_doing) 49 = .ok (.iload_n 2, 1) by decide +kernel) 2 rfl rfl ?_
          refine v_iload_n (pc := 50) (show decode (tC tMp_doing) 50 = .ok (.iload_n 3, 1) by decide +kernel) 3 rfl rfl ?_
          refine v_iload (pc := 51) (show decode (tC tMp_doing) 51 = .ok (.iload 4, 2) by decide +kernel) 4 rfl ?_
          refine v_iload (pc := 53) (show decode (tC tMp_doing) 53 = .ok (.iload 5, 2) by decide +kernel) 5 rfl ?_
          obtain ⟨_, e8, h⟩ := ob h
          obtain ⟨r9, S10, e7, h⟩ := ob2 h
          refine v_call (pc := 55) (v := (some (.int r9))) (y := yPr_canDo) (θ' := tPr_canDo) (rm := rPr_canDo) (av := [.ref v5, .int x2, .int x3, .int x4, .int x5]) (st := []) (cPr_canDo (l := gl Γ) hl e7) kPr_canDo iPr_canDo (iv_virt (y := yPr_canDo) (θ' := tPr_canDo) (kd := 1) (As := [.int x2, .int x3, .int x4, .int x5]) rfl (ckd_of e8) kPr_canDo (gT_in 803 (by decide +kernel) rfl) nPr_canDo lPr_canDo mPr_canDo rfl (show decode (tC tMp_doing) 55 = .ok (.invokevirtual 139, 3) by decide +kernel)) ⟨by rw [hR]; decide, by rw [hR]; decide, by rw [hR]; decide, by rw [hR]; decide⟩ (Nat.le_of_ble_eq_true rfl) ?_
          refine v_if_ne (pc := 58) 71 (show decode (tC tMp_doing) 58 = .ok (.ifCond .ne 13, 3) by decide +kernel) (by decide) (fun c => ?_) (fun c => ?_)
          · replace h := ite_f c h
            refine v_aload_n (pc := 71) (show decode (tC tMp_doing) 71 = .ok (.aload_n 0, 1) by decide +kernel) 0 rfl rfl ?_
            obtain ⟨v11, e12, h⟩ := ob h
            refine v_getX (pc := 72) oF_Mp_20 e12 (show decode (tC tMp_doing) 72 = .ok (.getfield 20, 3) by decide +kernel) ?_
            obtain ⟨v13, e14, h⟩ := ob h
            refine v_getX (pc := 75) oF_Mp_123 e14 (show decode (tC tMp_doing) 75 = .ok (.getfield 123, 3) by decide +kernel) ?_
            refine v_iload_n (pc := 78) (show decode (tC tMp_doing) 78 = .ok (.iload_n 1, 1) by decide +kernel) 1 rfl rfl ?_
            obtain ⟨v15, e16, h⟩ := ob h
            refine v_aald (pc := 79) (kd := 3) rfl e16 (show decode (tC tMp_doing) 79 = .ok (.aaload, 1) by decide +kernel) ?_
            refine v_astore (pc := 80) [(6, .ref v15), (0, .ref x0), (1, .int x1), (2, .int x2), (3, .int x3), (4, .int x4), (5, .int x5)] (show decode (tC tMp_doing) 80 = .ok (.astore 6, 2) by decide +kernel) (by decide) rfl ?_
            refine v_aload_n (pc := 82) (show decode (tC tMp_doing) 82 = .ok (.aload_n 0, 1) by decide +kernel) 1 rfl rfl ?_
            refine v_aload (pc := 83) (show decode (tC tMp_doing) 83 = .ok (.aload 6, 2) by decide +kernel) 0 rfl ?_
            obtain ⟨v17, e18, h⟩ := ob h
            refine v_getI (pc := 85) oF_Mp_127 (by decide) e18 (show decode (tC tMp_doing) 85 = .ok (.getfield 127, 3) by decide +kernel) ?_
            refine v_iconst (pc := 88) (v := 4) (show decode (tC tMp_doing) 88 = .ok (.iconst 4, 1) by decide +kernel) (by decide) ?_
            obtain ⟨_, e20, h⟩ := ob h
            obtain ⟨k21, r22, S23, e19, ⟨hk, h⟩ | ⟨hk, h⟩⟩ := obT h
            · subst hk
              refine v_callR (pc := 89) (mc := 1) (ms := 6) (v := none) (y := yMp_refuseBeyond) (θ' := tMp_refuseBeyond) (rm := rMp_refuseBeyond) (av := [.ref x0, .int v17, .int 4]) (st := []) (cMp_refuseBeyond (l := gl Γ) hl e19) kMp_refuseBeyond iMp_refuseBeyond (iv_virt (y := yMp_refuseBeyond) (θ' := tMp_refuseBeyond) (kd := 0) (As := [.int v17, .int 4]) rfl (ckd_of e20) kMp_refuseBeyond (gT_in 699 (by decide +kernel) rfl) nMp_refuseBeyond lMp_refuseBeyond mMp_refuseBeyond rfl (show decode (tC tMp_doing) 89 = .ok (.invokevirtual 73, 3) by decide +kernel)) ⟨by rw [hR]; decide, by rw [hR]; decide, by rw [hR]; decide, by rw [hR]; decide⟩ (Nat.le_of_ble_eq_true rfl) ?_
              refine v_aload (pc := 92) (show decode (tC tMp_doing) 92 = .ok (.aload 6, 2) by decide +kernel) 0 rfl ?_
              refine v_iload_n (pc := 94) (show decode (tC tMp_doing) 94 = .ok (.iload_n 2, 1) by decide +kernel) 3 rfl rfl ?_
              refine v_iload_n (pc := 95) (show decode (tC tMp_doing) 95 = .ok (.iload_n 3, 1) by decide +kernel) 4 rfl rfl ?_
              refine v_iload (pc := 96) (show decode (tC tMp_doing) 96 = .ok (.iload 4, 2) by decide +kernel) 5 rfl ?_
              refine v_iload (pc := 98) (show decode (tC tMp_doing) 98 = .ok (.iload 5, 2) by decide +kernel) 6 rfl ?_
              obtain ⟨_, e25, h⟩ := ob h
              obtain ⟨S26, e24, h⟩ := ob h
              refine v_call (pc := 100) (v := none) (y := yAc_addDoing) (θ' := tAc_addDoing) (rm := rAc_addDoing) (av := [.ref v15, .int x2, .int x3, .int x4, .int x5]) (st := []) (cAc_addDoing (l := gl Γ) hl e24) kAc_addDoing iAc_addDoing (iv_virt (y := yAc_addDoing) (θ' := tAc_addDoing) (kd := 3) (As := [.int x2, .int x3, .int x4, .int x5]) rfl (ckd_of e25) kAc_addDoing (gT_in 815 (by decide +kernel) rfl) nAc_addDoing lAc_addDoing mAc_addDoing rfl (show decode (tC tMp_doing) 100 = .ok (.invokevirtual 145, 3) by decide +kernel)) ⟨by rw [hR]; decide, by rw [hR]; decide, by rw [hR]; decide, by rw [hR]; decide⟩ (Nat.le_of_ble_eq_true rfl) ?_
              obtain rfl := Option.some.inj h
              refine v_wide (ce2 := 0) (sl2 := 0) (by decide) (by decide) ?_
              exact v_vret (pc := 103) rfl (show decode (tC tMp_doing) 103 = .ok (.return_, 1) by decide +kernel)
            · subst h
              exact v_callT (pc := 89) (mc := 1) (ms := 6) hk (y := yMp_refuseBeyond) (θ' := tMp_refuseBeyond) (rm := rMp_refuseBeyond) (av := [.ref x0, .int v17, .int 4]) (st := []) (cMp_refuseBeyond (l := gl Γ) hl e19) kMp_refuseBeyond iMp_refuseBeyond (iv_virt (y := yMp_refuseBeyond) (θ' := tMp_refuseBeyond) (kd := 0) (As := [.int v17, .int 4]) rfl (ckd_of e20) kMp_refuseBeyond (gT_in 699 (by decide +kernel) rfl) nMp_refuseBeyond lMp_refuseBeyond mMp_refuseBeyond rfl (show decode (tC tMp_doing) 89 = .ok (.invokevirtual 73, 3) by decide +kernel)) ⟨by rw [hR]; decide, by rw [hR]; decide, by rw [hR]; decide, by rw [hR]; decide⟩ (Nat.le_of_ble_eq_true rfl) rfl
          · replace h := ite_t c h
            obtain rfl := Option.some.inj h
            exact v_throw0 (pc := 61) (k := 3) (pc2 := 67) (own := "MatchPipe") (tx := "no such field, array or datum") rfl ex_3 rfl (strs_in 8 rfl) (show decode (tC tMp_doing) 61 = .ok (.new 134, 3) by decide +kernel) (show decode (tC tMp_doing) 64 = .ok (.dup, 1) by decide +kernel) (Or.inl ⟨(show decode (tC tMp_doing) 65 = .ok (.ldc 143, 2) by decide +kernel), rfl⟩) (show decode (tC tMp_doing) 67 = .ok (.invokespecial 138, 3) by decide +kernel) (show decode (tC tMp_doing) 70 = .ok (.athrow, 1) by decide +kernel) (by rw [hR]; decide) (by rw [hR]; decide) (by rw [hR]; decide) (by rw [hR]; decide)
        · replace h := ite_f c h
          refine v_sub [] [] rfl ?_
          exact wMp_doing_35 hR hl  S h
    · replace h := ite_f c h
      refine v_sub [] [] rfl ?_
      exact wMp_doing_10 hR hl  S h
theorem cMp_doing {l : Launch} (hl : l.flags = pinnedFlags ++ [noTraceFlag]) {D : va_G} {dA : Nat → ClassId} {B : Nat} {x0 : Nat} {x1 : Int32} {x2 : Int32} {x3 : Int32} {x4 : Int32} {x5 : Int32} {S : Sx} {X : Nat × Int32 × Sx} (h : fMp_doing x0 x1 x2 x3 x4 x5 S = some X) : Mx l yMp_doing tMp_doing rMp_doing (if X.1 = 0 then 0 else 1) (if X.1 = 0 then 0 else 6) D dA B S [.ref x0, .int x1, .int x2, .int x3, .int x4, .int x5] X.1 none X.2.2 :=
  mx_of hl (by decide) rfl rfl (Nat.le_of_ble_eq_true rfl) (fun Γ e1 e2 e3 e4 e5 => by subst e1; subst e3; subst e4; subst e5; exact wMp_doing e2 hl x0 x1 x2 x3 x4 x5 S h)
/-! MatchPipe.table(IIIII)I -/
def yMp_table : MethodName := ⟨"MatchPipe", "table", "(IIIII)I"⟩
def tMp_table : tM := (prog_1_method_9_code, "MatchPipe", 7, "table", some .int, [])
def rMp_table : Room := { frames := 8, cells := 1, slots := 6, locals := 152 }
theorem kMp_table : cOf yMp_table tMp_table ∈ gT := gT_in 825 (by decide +kernel) rfl
theorem iMp_table : Cond.initialized yMp_table.cls ∈ gT := gT_in 55 (by decide +kernel) rfl
theorem mMp_table : okM yMp_table 5 := ⟨by decide, by decide, by unfold nPar; decide +kernel⟩
theorem nMp_table : Cond.instanceMethod yMp_table ∈ gT := gT_in 823 (by decide +kernel) rfl
theorem lMp_table : Cond.selects "MatchPipe" yMp_table yMp_table ∈ gT := gT_in 824 (by decide +kernel) rfl
def fMp_table_52   (S : Sx) : Option (Nat × Int32 × Sx) :=
    some (3, 0, nx S)
set_option maxRecDepth 100000 in
set_option maxHeartbeats 4000000 in
theorem wMp_table_52 {Γ : vG} (hR : gR Γ = rMp_table) (hl : (gl Γ).flags = pinnedFlags ++ [noTraceFlag]) {X : Nat × Int32 × Sx}  : ∀  (S : Sx), fMp_table_52   S = some X → vV Γ tMp_table (mQ Γ (if X.1 = 0 then 0 else 1) (if X.1 = 0 then 0 else 6) X.1 (some (.int X.2.1)) X.2.2) S 0 0 52 [] [] := by
  intro  S h
  unfold fMp_table_52 at h
  obtain rfl := Option.some.inj h
  exact v_throw0 (pc := 52) (k := 3) (pc2 := 58) (own := "MatchPipe") (tx := "no such actions") rfl ex_3 rfl (strs_in 10 rfl) (show decode (tC tMp_table) 52 = .ok (.new 134, 3) by decide +kernel) (show decode (tC tMp_table) 55 = .ok (.dup, 1) by decide +kernel) (Or.inl ⟨(show decode (tC tMp_table) 56 = .ok (.ldc 158, 2) by decide +kernel), rfl⟩) (show decode (tC tMp_table) 58 = .ok (.invokespecial 138, 3) by decide +kernel) (show decode (tC tMp_table) 61 = .ok (.athrow, 1) by decide +kernel) (by rw [hR]; decide) (by rw [hR]; decide) (by rw [hR]; decide) (by rw [hR]; decide)
def fMp_table_148  (x0 : Nat) (x3 : Int32) (x4 : Int32) (x5 : Int32) (x6 : Nat) (z0 : Int32) (z1 : Int32) (z2 : Int32) (z3 : Int32) (z4 : Nat) (S : Sx) : Option (Nat × Int32 × Sx) :=
    (ckd S z4 4).bind fun _ =>
    (fTa_setKeys z4 z3 z2 z1 z0 x3 S).bind fun S3 =>
    (ckd S3 x6 4).bind fun _ =>
    (fTa_setActions x6 x4 x5 S3).bind fun S6 =>
    (gX S6 0 1 x0).bind fun v7 =>
    (gI S6 1 8 v7).bind fun v9 =>
    (pI S6 1 8 v7 (v9 + 1)).bind fun S11 =>
    some (0, v9, S11)
set_option maxRecDepth 100000 in
set_option maxHeartbeats 4000000 in
theorem wMp_table_148 {Γ : vG} (hR : gR Γ = rMp_table) (hl : (gl Γ).flags = pinnedFlags ++ [noTraceFlag]) {X : Nat × Int32 × Sx}  : ∀ (x0 : Nat) (x3 : Int32) (x4 : Int32) (x5 : Int32) (x6 : Nat) (z0 : Int32) (z1 : Int32) (z2 : Int32) (z3 : Int32) (z4 : Nat) (S : Sx), fMp_table_148  x0 x3 x4 x5 x6 z0 z1 z2 z3 z4 S = some X → vV Γ tMp_table (mQ Γ (if X.1 = 0 then 0 else 1) (if X.1 = 0 then 0 else 6) X.1 (some (.int X.2.1)) X.2.2) S 0 0 148 [(0, .ref x0), (3, .int x3), (4, .int x4), (5, .int x5), (6, .ref x6)] [.int z0, .int z1, .int z2, .int z3, .ref z4] := by
  intro x0 x3 x4 x5 x6 z0 z1 z2 z3 z4 S h
  unfold fMp_table_148 at h
  refine v_iload_n (pc := 148) (show decode (tC tMp_table) 148 = .ok (.iload_n 3, 1) by decide +kernel) 1 rfl rfl ?_
  obtain ⟨_, e2, h⟩ := ob h
  obtain ⟨S3, e1, h⟩ := ob h
  refine v_call (pc := 149) (v := none) (y := yTa_setKeys) (θ' := tTa_setKeys) (rm := rTa_setKeys) (av := [.ref z4, .int z3, .int z2, .int z1, .int z0, .int x3]) (st := []) (cTa_setKeys (l := gl Γ) hl e1) kTa_setKeys iTa_setKeys (iv_virt (y := yTa_setKeys) (θ' := tTa_setKeys) (kd := 4) (As := [.int z3, .int z2, .int z1, .int z0, .int x3]) rfl (ckd_of e2) kTa_setKeys (gT_in 843 (by decide +kernel) rfl) nTa_setKeys lTa_setKeys mTa_setKeys rfl (show decode (tC tMp_table) 149 = .ok (.invokevirtual 177, 3) by decide +kernel)) ⟨by rw [hR]; decide, by rw [hR]; decide, by rw [hR]; decide, by rw [hR]; decide⟩ (Nat.le_of_ble_eq_true rfl) ?_
  refine v_aload (pc := 152) (show decode (tC tMp_table) 152 = .ok (.aload 6, 2) by decide +kernel) 4 rfl ?_
  refine v_iload (pc := 154) (show decode (tC tMp_table) 154 = .ok (.iload 4, 2) by decide +kernel) 2 rfl ?_
  refine v_iload (pc := 156) (show decode (tC tMp_table) 156 = .ok (.iload 5, 2) by decide +kernel) 3 rfl ?_
  obtain ⟨_, e5, h⟩ := ob h
  obtain ⟨S6, e4, h⟩ := ob h
  refine v_call (pc := 158) (v := none) (y := yTa_setActions) (θ' := tTa_setActions) (rm := rTa_setActions) (av := [.ref x6, .int x4, .int x5]) (st := []) (cTa_setActions (l := gl Γ) hl e4) kTa_setActions iTa_setActions (iv_virt (y := yTa_setActions) (θ' := tTa_setActions) (kd := 4) (As := [.int x4, .int x5]) rfl (ckd_of e5) kTa_setActions (gT_in 847 (by decide +kernel) rfl) nTa_setActions lTa_setActions mTa_setActions rfl (show decode (tC tMp_table) 158 = .ok (.invokevirtual 183, 3) by decide +kernel)) ⟨by rw [hR]; decide, by rw [hR]; decide, by rw [hR]; decide, by rw [hR]; decide⟩ (Nat.le_of_ble_eq_true rfl) ?_
  refine v_aload_n (pc := 161) (show decode (tC tMp_table) 161 = .ok (.aload_n 0, 1) by decide +kernel) 0 rfl rfl ?_
  obtain ⟨v7, e8, h⟩ := ob h
  refine v_getX (pc := 162) oF_Mp_20 e8 (show decode (tC tMp_table) 162 = .ok (.getfield 20, 3) by decide +kernel) ?_
  refine v_dup (pc := 165) (show decode (tC tMp_table) 165 = .ok (.dup, 1) by decide +kernel) rfl ?_
  obtain ⟨v9, e10, h⟩ := ob h
  refine v_getI (pc := 166) oF_Mp_166 (by decide) e10 (show decode (tC tMp_table) 166 = .ok (.getfield 166, 3) by decide +kernel) ?_
  refine v_dup_x1 (pc := 169) (show decode (tC tMp_table) 169 = .ok (.dup_x1, 1) by decide +kernel) rfl rfl ?_
  refine v_iconst (pc := 170) (v := 1) (show decode (tC tMp_table) 170 = .ok (.iconst 1, 1) by decide +kernel) (by decide) ?_
  refine v_iadd (pc := 171) (show decode (tC tMp_table) 171 = .ok (.iadd, 1) by decide +kernel) ?_
  obtain ⟨S11, e12, h⟩ := ob h
  refine v_putI (pc := 172) oF_Mp_166 (fin_ok (kd := 1) (k := 8) (by decide +kernel)) e12 (show decode (tC tMp_table) 172 = .ok (.putfield 166, 3) by decide +kernel) ?_
  obtain rfl := Option.some.inj h
  refine v_wide (ce2 := 0) (sl2 := 0) (by decide) (by decide) ?_
  exact v_iret (pc := 175) rfl (show decode (tC tMp_table) 175 = .ok (.ireturn, 1) by decide +kernel)
def fMp_table_73  (x0 : Nat) (x1 : Int32) (x2 : Int32) (x3 : Int32) (x4 : Int32) (x5 : Int32) (z0 : Int32) (z1 : Int32) (S : Sx) : Option (Nat × Int32 × Sx) :=
    bd2 (fMp_isHow z1 z0 S) fun r2 S3 =>
    if r2 = 0 then
    (some (1, 0, nx S3))
    else
    ((gX S3 0 1 x0).bind fun v4 =>
    (gI S3 1 8 v4).bind fun v6 =>
    (ckd S3 x0 0).bind fun _ =>
    bdT (fMp_refuseBeyond x0 v6 8 S3) fun r11 S12 =>
    (gX S12 0 1 x0).bind fun v13 =>
    (gX S12 1 3 v13).bind fun v15 =>
    (gX S12 0 1 x0).bind fun v17 =>
    (gI S12 1 8 v17).bind fun v19 =>
    (aX S12 4 v15 v19).bind fun v21 =>
    (gX S12 0 1 x0).bind fun v23 =>
    (ckd S12 v23 1).bind fun _ =>
    bd2 (fPr_ones v23 x1 S12) fun r27 S28 =>
    if x2 = (-1) then
    (fMp_table_148  x0 x3 x4 x5 v21 0 x2 r27 x1 v21 S28)
    else
    ((gX S28 0 1 x0).bind fun v29 =>
    (ckd S28 v29 1).bind fun _ =>
    bd2 (fPr_ones v29 x2 S28) fun r33 S34 =>
    fMp_table_148  x0 x3 x4 x5 v21 r33 x2 r27 x1 v21 S34))
set_option maxRecDepth 100000 in
set_option maxHeartbeats 4000000 in
theorem wMp_table_73 {Γ : vG} (hR : gR Γ = rMp_table) (hl : (gl Γ).flags = pinnedFlags ++ [noTraceFlag]) {X : Nat × Int32 × Sx}  : ∀ (x0 : Nat) (x1 : Int32) (x2 : Int32) (x3 : Int32) (x4 : Int32) (x5 : Int32) (z0 : Int32) (z1 : Int32) (S : Sx), fMp_table_73  x0 x1 x2 x3 x4 x5 z0 z1 S = some X → vV Γ tMp_table (mQ Γ (if X.1 = 0 then 0 else 1) (if X.1 = 0 then 0 else 6) X.1 (some (.int X.2.1)) X.2.2) S 0 0 73 [(0, .ref x0), (1, .int x1), (2, .int x2), (3, .int x3), (4, .int x4), (5, .int x5)] [.int z0, .int z1] := by
  intro x0 x1 x2 x3 x4 x5 z0 z1 S h
  unfold fMp_table_73 at h
  obtain ⟨r2, S3, e1, h⟩ := ob2 h
  refine v_call (pc := 73) (v := (some (.int r2))) (y := yMp_isHow) (θ' := tMp_isHow) (rm := rMp_isHow) (av := [.int z1, .int z0]) (st := []) (cMp_isHow (l := gl Γ) hl e1) kMp_isHow iMp_isHow (iv_static (y := yMp_isHow) (θ' := tMp_isHow) (n := 2) (As := [.int z1, .int z0]) kMp_isHow (gT_in 835 (by decide +kernel) rfl) sMp_isHow iMp_isHow mMp_isHow rfl (show decode (tC tMp_table) 73 = .ok (.invokestatic 160, 3) by decide +kernel)) ⟨by rw [hR]; decide, by rw [hR]; decide, by rw [hR]; decide, by rw [hR]; decide⟩ (Nat.le_of_ble_eq_true rfl) ?_
  refine v_if_ne (pc := 76) 89 (show decode (tC tMp_table) 76 = .ok (.ifCond .ne 13, 3) by decide +kernel) (by decide) (fun c => ?_) (fun c => ?_)
  · replace h := ite_f c h
    refine v_aload_n (pc := 89) (show decode (tC tMp_table) 89 = .ok (.aload_n 0, 1) by decide +kernel) 0 rfl rfl ?_
    refine v_aload_n (pc := 90) (show decode (tC tMp_table) 90 = .ok (.aload_n 0, 1) by decide +kernel) 0 rfl rfl ?_
    obtain ⟨v4, e5, h⟩ := ob h
    refine v_getX (pc := 91) oF_Mp_20 e5 (show decode (tC tMp_table) 91 = .ok (.getfield 20, 3) by decide +kernel) ?_
    obtain ⟨v6, e7, h⟩ := ob h
    refine v_getI (pc := 94) oF_Mp_166 (by decide) e7 (show decode (tC tMp_table) 94 = .ok (.getfield 166, 3) by decide +kernel) ?_
    refine v_bipush (pc := 97) (v := 8) (show decode (tC tMp_table) 97 = .ok (.bipush 8, 2) by decide +kernel) (by decide) ?_
    obtain ⟨_, e9, h⟩ := ob h
    obtain ⟨k10, r11, S12, e8, ⟨hk, h⟩ | ⟨hk, h⟩⟩ := obT h
    · subst hk
      refine v_callR (pc := 99) (mc := 1) (ms := 6) (v := none) (y := yMp_refuseBeyond) (θ' := tMp_refuseBeyond) (rm := rMp_refuseBeyond) (av := [.ref x0, .int v6, .int 8]) (st := []) (cMp_refuseBeyond (l := gl Γ) hl e8) kMp_refuseBeyond iMp_refuseBeyond (iv_virt (y := yMp_refuseBeyond) (θ' := tMp_refuseBeyond) (kd := 0) (As := [.int v6, .int 8]) rfl (ckd_of e9) kMp_refuseBeyond (gT_in 699 (by decide +kernel) rfl) nMp_refuseBeyond lMp_refuseBeyond mMp_refuseBeyond rfl (show decode (tC tMp_table) 99 = .ok (.invokevirtual 73, 3) by decide +kernel)) ⟨by rw [hR]; decide, by rw [hR]; decide, by rw [hR]; decide, by rw [hR]; decide⟩ (Nat.le_of_ble_eq_true rfl) ?_
      refine v_aload_n (pc := 102) (show decode (tC tMp_table) 102 = .ok (.aload_n 0, 1) by decide +kernel) 0 rfl rfl ?_
      obtain ⟨v13, e14, h⟩ := ob h
      refine v_getX (pc := 103) oF_Mp_20 e14 (show decode (tC tMp_table) 103 = .ok (.getfield 20, 3) by decide +kernel) ?_
      obtain ⟨v15, e16, h⟩ := ob h
      refine v_getX (pc := 106) oF_Mp_169 e16 (show decode (tC tMp_table) 106 = .ok (.getfield 169, 3) by decide +kernel) ?_
      refine v_aload_n (pc := 109) (show decode (tC tMp_table) 109 = .ok (.aload_n 0, 1) by decide +kernel) 0 rfl rfl ?_
      obtain ⟨v17, e18, h⟩ := ob h
      refine v_getX (pc := 110) oF_Mp_20 e18 (show decode (tC tMp_table) 110 = .ok (.getfield 20, 3) by decide +kernel) ?_
      obtain ⟨v19, e20, h⟩ := ob h
      refine v_getI (pc := 113) oF_Mp_166 (by decide) e20 (show decode (tC tMp_table) 113 = .ok (.getfield 166, 3) by decide +kernel) ?_
      obtain ⟨v21, e22, h⟩ := ob h
      refine v_aald (pc := 116) (kd := 4) rfl e22 (show decode (tC tMp_table) 116 = .ok (.aaload, 1) by decide +kernel) ?_
      refine v_astore (pc := 117) [(6, .ref v21), (0, .ref x0), (1, .int x1), (2, .int x2), (3, .int x3), (4, .int x4), (5, .int x5)] (show decode (tC tMp_table) 117 = .ok (.astore 6, 2) by decide +kernel) (by decide) rfl ?_
      refine v_aload (pc := 119) (show decode (tC tMp_table) 119 = .ok (.aload 6, 2) by decide +kernel) 0 rfl ?_
      refine v_iload_n (pc := 121) (show decode (tC tMp_table) 121 = .ok (.iload_n 1, 1) by decide +kernel) 2 rfl rfl ?_
      refine v_aload_n (pc := 122) (show decode (tC tMp_table) 122 = .ok (.aload_n 0, 1) by decide +kernel) 1 rfl rfl ?_
      obtain ⟨v23, e24, h⟩ := ob h
      refine v_getX (pc := 123) oF_Mp_20 e24 (show decode (tC tMp_table) 123 = .ok (.getfield 20, 3) by decide +kernel) ?_
      refine v_iload_n (pc := 126) (show decode (tC tMp_table) 126 = .ok (.iload_n 1, 1) by decide +kernel) 2 rfl rfl ?_
      obtain ⟨_, e26, h⟩ := ob h
      obtain ⟨r27, S28, e25, h⟩ := ob2 h
      refine v_call (pc := 127) (v := (some (.int r27))) (y := yPr_ones) (θ' := tPr_ones) (rm := rPr_ones) (av := [.ref v23, .int x1]) (st := [.int x1, .ref v21]) (cPr_ones (l := gl Γ) hl e25) kPr_ones iPr_ones (iv_virt (y := yPr_ones) (θ' := tPr_ones) (kd := 1) (As := [.int x1]) rfl (ckd_of e26) kPr_ones (gT_in 839 (by decide +kernel) rfl) nPr_ones lPr_ones mPr_ones rfl (show decode (tC tMp_table) 127 = .ok (.invokevirtual 173, 3) by decide +kernel)) ⟨by rw [hR]; decide, by rw [hR]; decide, by rw [hR]; decide, by rw [hR]; decide⟩ (Nat.le_of_ble_eq_true rfl) ?_
      refine v_iload_n (pc := 130) (show decode (tC tMp_table) 130 = .ok (.iload_n 2, 1) by decide +kernel) 3 rfl rfl ?_
      refine v_iload_n (pc := 131) (show decode (tC tMp_table) 131 = .ok (.iload_n 2, 1) by decide +kernel) 3 rfl rfl ?_
      refine v_iconst (pc := 132) (v := (-1)) (show decode (tC tMp_table) 132 = .ok (.iconst (-1), 1) by decide +kernel) (by decide) ?_
      refine v_icmp_ne (pc := 133) 140 (show decode (tC tMp_table) 133 = .ok (.if_icmp .ne 7, 3) by decide +kernel) (by decide) (fun c => ?_) (fun c => ?_)
      · replace h := ite_f c h
        refine v_aload_n (pc := 140) (show decode (tC tMp_table) 140 = .ok (.aload_n 0, 1) by decide +kernel) 1 rfl rfl ?_
        obtain ⟨v29, e30, h⟩ := ob h
        refine v_getX (pc := 141) oF_Mp_20 e30 (show decode (tC tMp_table) 141 = .ok (.getfield 20, 3) by decide +kernel) ?_
        refine v_iload_n (pc := 144) (show decode (tC tMp_table) 144 = .ok (.iload_n 2, 1) by decide +kernel) 3 rfl rfl ?_
        obtain ⟨_, e32, h⟩ := ob h
        obtain ⟨r33, S34, e31, h⟩ := ob2 h
        refine v_call (pc := 145) (v := (some (.int r33))) (y := yPr_ones) (θ' := tPr_ones) (rm := rPr_ones) (av := [.ref v29, .int x2]) (st := [.int x2, .int r27, .int x1, .ref v21]) (cPr_ones (l := gl Γ) hl e31) kPr_ones iPr_ones (iv_virt (y := yPr_ones) (θ' := tPr_ones) (kd := 1) (As := [.int x2]) rfl (ckd_of e32) kPr_ones (gT_in 839 (by decide +kernel) rfl) nPr_ones lPr_ones mPr_ones rfl (show decode (tC tMp_table) 145 = .ok (.invokevirtual 173, 3) by decide +kernel)) ⟨by rw [hR]; decide, by rw [hR]; decide, by rw [hR]; decide, by rw [hR]; decide⟩ (Nat.le_of_ble_eq_true rfl) ?_
        refine v_sub [(0, .ref x0), (3, .int x3), (4, .int x4), (5, .int x5), (6, .ref v21)] [1, 4, 5, 6, 0] rfl ?_
        exact wMp_table_148 hR hl  x0 x3 x4 x5 v21 r33 x2 r27 x1 v21 S34 h
      · replace h := ite_t c h
        refine v_iconst (pc := 136) (v := 0) (show decode (tC tMp_table) 136 = .ok (.iconst 0, 1) by decide +kernel) (by decide) ?_
        refine v_goto (pc := 137) 148 (show decode (tC tMp_table) 137 = .ok (.goto 11, 3) by decide +kernel) (by decide) ?_
        refine v_sub [(0, .ref x0), (3, .int x3), (4, .int x4), (5, .int x5), (6, .ref v21)] [1, 4, 5, 6, 0] rfl ?_
        exact wMp_table_148 hR hl  x0 x3 x4 x5 v21 0 x2 r27 x1 v21 S28 h
    · subst h
      exact v_callT (pc := 99) (mc := 1) (ms := 6) hk (y := yMp_refuseBeyond) (θ' := tMp_refuseBeyond) (rm := rMp_refuseBeyond) (av := [.ref x0, .int v6, .int 8]) (st := []) (cMp_refuseBeyond (l := gl Γ) hl e8) kMp_refuseBeyond iMp_refuseBeyond (iv_virt (y := yMp_refuseBeyond) (θ' := tMp_refuseBeyond) (kd := 0) (As := [.int v6, .int 8]) rfl (ckd_of e9) kMp_refuseBeyond (gT_in 699 (by decide +kernel) rfl) nMp_refuseBeyond lMp_refuseBeyond mMp_refuseBeyond rfl (show decode (tC tMp_table) 99 = .ok (.invokevirtual 73, 3) by decide +kernel)) ⟨by rw [hR]; decide, by rw [hR]; decide, by rw [hR]; decide, by rw [hR]; decide⟩ (Nat.le_of_ble_eq_true rfl) rfl
  · replace h := ite_t c h
    obtain rfl := Option.some.inj h
    exact v_throw0 (pc := 79) (k := 1) (pc2 := 85) (own := "MatchPipe") (tx := "keys can't be matched so") rfl ex_1 rfl (strs_in 11 rfl) (show decode (tC tMp_table) 79 = .ok (.new 63, 3) by decide +kernel) (show decode (tC tMp_table) 82 = .ok (.dup, 1) by decide +kernel) (Or.inl ⟨(show decode (tC tMp_table) 83 = .ok (.ldc 164, 2) by decide +kernel), rfl⟩) (show decode (tC tMp_table) 85 = .ok (.invokespecial 67, 3) by decide +kernel) (show decode (tC tMp_table) 88 = .ok (.athrow, 1) by decide +kernel) (by rw [hR]; decide) (by rw [hR]; decide) (by rw [hR]; decide) (by rw [hR]; decide)
def fMp_table_15  (x0 : Nat) (x1 : Int32) (x2 : Int32) (x3 : Int32) (x4 : Int32) (x5 : Int32) (S : Sx) : Option (Nat × Int32 × Sx) :=
    if x1 = x2 then
    (some (3, 0, nx S))
    else
    ((gX S 0 1 x0).bind fun v1 =>
    (ckd S v1 1).bind fun _ =>
    bd2 (fPr_hasActions v1 x4 S) fun r5 S6 =>
    if r5 = 0 then
    (fMp_table_52  S6)
    else
    (bd2 (fMp_hasBit x4 x5 S6) fun r8 S9 =>
    if r8 = 0 then
    (fMp_table_52  S9)
    else
    (if x2 = (-1) then
    (fMp_table_73  x0 x1 x2 x3 x4 x5 0 x3 S9)
    else
    (fMp_table_73  x0 x1 x2 x3 x4 x5 1 x3 S9))))
set_option maxRecDepth 100000 in
set_option maxHeartbeats 4000000 in
theorem wMp_table_15 {Γ : vG} (hR : gR Γ = rMp_table) (hl : (gl Γ).flags = pinnedFlags ++ [noTraceFlag]) {X : Nat × Int32 × Sx}  : ∀ (x0 : Nat) (x1 : Int32) (x2 : Int32) (x3 : Int32) (x4 : Int32) (x5 : Int32) (S : Sx), fMp_table_15  x0 x1 x2 x3 x4 x5 S = some X → vV Γ tMp_table (mQ Γ (if X.1 = 0 then 0 else 1) (if X.1 = 0 then 0 else 6) X.1 (some (.int X.2.1)) X.2.2) S 0 0 15 [(0, .ref x0), (1, .int x1), (2, .int x2), (3, .int x3), (4, .int x4), (5, .int x5)] [] := by
  intro x0 x1 x2 x3 x4 x5 S h
  unfold fMp_table_15 at h
  refine v_iload_n (pc := 15) (show decode (tC tMp_table) 15 = .ok (.iload_n 1, 1) by decide +kernel) 1 rfl rfl ?_
  refine v_iload_n (pc := 16) (show decode (tC tMp_table) 16 = .ok (.iload_n 2, 1) by decide +kernel) 2 rfl rfl ?_
  refine v_icmp_ne (pc := 17) 30 (show decode (tC tMp_table) 17 = .ok (.if_icmp .ne 13, 3) by decide +kernel) (by decide) (fun c => ?_) (fun c => ?_)
  · replace h := ite_f c h
    refine v_aload_n (pc := 30) (show decode (tC tMp_table) 30 = .ok (.aload_n 0, 1) by decide +kernel) 0 rfl rfl ?_
    obtain ⟨v1, e2, h⟩ := ob h
    refine v_getX (pc := 31) oF_Mp_20 e2 (show decode (tC tMp_table) 31 = .ok (.getfield 20, 3) by decide +kernel) ?_
    refine v_iload (pc := 34) (show decode (tC tMp_table) 34 = .ok (.iload 4, 2) by decide +kernel) 4 rfl ?_
    obtain ⟨_, e4, h⟩ := ob h
    obtain ⟨r5, S6, e3, h⟩ := ob2 h
    refine v_call (pc := 36) (v := (some (.int r5))) (y := yPr_hasActions) (θ' := tPr_hasActions) (rm := rPr_hasActions) (av := [.ref v1, .int x4]) (st := []) (cPr_hasActions (l := gl Γ) hl e3) kPr_hasActions iPr_hasActions (iv_virt (y := yPr_hasActions) (θ' := tPr_hasActions) (kd := 1) (As := [.int x4]) rfl (ckd_of e4) kPr_hasActions (gT_in 827 (by decide +kernel) rfl) nPr_hasActions lPr_hasActions mPr_hasActions rfl (show decode (tC tMp_table) 36 = .ok (.invokevirtual 150, 3) by decide +kernel)) ⟨by rw [hR]; decide, by rw [hR]; decide, by rw [hR]; decide, by rw [hR]; decide⟩ (Nat.le_of_ble_eq_true rfl) ?_
    refine v_if_eq (pc := 39) 52 (show decode (tC tMp_table) 39 = .ok (.ifCond .eq 13, 3) by decide +kernel) (by decide) (fun c => ?_) (fun c => ?_)
    · replace h := ite_t c h
      refine v_sub [] [] rfl ?_
      exact wMp_table_52 hR hl  S6 h
    · replace h := ite_f c h
      refine v_iload (pc := 42) (show decode (tC tMp_table) 42 = .ok (.iload 4, 2) by decide +kernel) 4 rfl ?_
      refine v_iload (pc := 44) (show decode (tC tMp_table) 44 = .ok (.iload 5, 2) by decide +kernel) 5 rfl ?_
      obtain ⟨r8, S9, e7, h⟩ := ob2 h
      refine v_call (pc := 46) (v := (some (.int r8))) (y := yMp_hasBit) (θ' := tMp_hasBit) (rm := rMp_hasBit) (av := [.int x4, .int x5]) (st := []) (cMp_hasBit (l := gl Γ) hl e7) kMp_hasBit iMp_hasBit (iv_static (y := yMp_hasBit) (θ' := tMp_hasBit) (n := 2) (As := [.int x4, .int x5]) kMp_hasBit (gT_in 831 (by decide +kernel) rfl) sMp_hasBit iMp_hasBit mMp_hasBit rfl (show decode (tC tMp_table) 46 = .ok (.invokestatic 154, 3) by decide +kernel)) ⟨by rw [hR]; decide, by rw [hR]; decide, by rw [hR]; decide, by rw [hR]; decide⟩ (Nat.le_of_ble_eq_true rfl) ?_
      refine v_if_ne (pc := 49) 62 (show decode (tC tMp_table) 49 = .ok (.ifCond .ne 13, 3) by decide +kernel) (by decide) (fun c => ?_) (fun c => ?_)
      · replace h := ite_f c h
        refine v_iload_n (pc := 62) (show decode (tC tMp_table) 62 = .ok (.iload_n 3, 1) by decide +kernel) 3 rfl rfl ?_
        refine v_iload_n (pc := 63) (show decode (tC tMp_table) 63 = .ok (.iload_n 2, 1) by decide +kernel) 2 rfl rfl ?_
        refine v_iconst (pc := 64) (v := (-1)) (show decode (tC tMp_table) 64 = .ok (.iconst (-1), 1) by decide +kernel) (by decide) ?_
        refine v_icmp_eq (pc := 65) 72 (show decode (tC tMp_table) 65 = .ok (.if_icmp .eq 7, 3) by decide +kernel) (by decide) (fun c => ?_) (fun c => ?_)
        · replace h := ite_t c h
          refine v_iconst (pc := 72) (v := 0) (show decode (tC tMp_table) 72 = .ok (.iconst 0, 1) by decide +kernel) (by decide) ?_
          exact wMp_table_73 hR hl  x0 x1 x2 x3 x4 x5 0 x3 S9 h
        · replace h := ite_f c h
          refine v_iconst (pc := 68) (v := 1) (show decode (tC tMp_table) 68 = .ok (.iconst 1, 1) by decide +kernel) (by decide) ?_
          refine v_goto (pc := 69) 73 (show decode (tC tMp_table) 69 = .ok (.goto 4, 3) by decide +kernel) (by decide) ?_
          exact wMp_table_73 hR hl  x0 x1 x2 x3 x4 x5 1 x3 S9 h
      · replace h := ite_t c h
        refine v_sub [] [] rfl ?_
        exact wMp_table_52 hR hl  S9 h
  · replace h := ite_t c h
    obtain rfl := Option.some.inj h
    exact v_throw0 (pc := 20) (k := 3) (pc2 := 26) (own := "MatchPipe") (tx := "both keys are one field") rfl ex_3 rfl (strs_in 9 rfl) (show decode (tC tMp_table) 20 = .ok (.new 134, 3) by decide +kernel) (show decode (tC tMp_table) 23 = .ok (.dup, 1) by decide +kernel) (Or.inl ⟨(show decode (tC tMp_table) 24 = .ok (.ldc 148, 2) by decide +kernel), rfl⟩) (show decode (tC tMp_table) 26 = .ok (.invokespecial 138, 3) by decide +kernel) (show decode (tC tMp_table) 29 = .ok (.athrow, 1) by decide +kernel) (by rw [hR]; decide) (by rw [hR]; decide) (by rw [hR]; decide) (by rw [hR]; decide)
def fMp_table (x0 : Nat) (x1 : Int32) (x2 : Int32) (x3 : Int32) (x4 : Int32) (x5 : Int32) (S : Sx) : Option (Nat × Int32 × Sx) :=
    (ckd S x0 0).bind fun _ =>
    bdT (fMp_requireField x0 x1 S) fun r4 S5 =>
    if x2 = (-1) then
    (fMp_table_15  x0 x1 x2 x3 x4 x5 S5)
    else
    ((ckd S5 x0 0).bind fun _ =>
    bdT (fMp_requireField x0 x2 S5) fun r9 S10 =>
    fMp_table_15  x0 x1 x2 x3 x4 x5 S10)
set_option maxRecDepth 100000 in
set_option maxHeartbeats 4000000 in
theorem wMp_table {Γ : vG} (hR : gR Γ = rMp_table) (hl : (gl Γ).flags = pinnedFlags ++ [noTraceFlag]) (x0 : Nat) (x1 : Int32) (x2 : Int32) (x3 : Int32) (x4 : Int32) (x5 : Int32) (S : Sx) {X : Nat × Int32 × Sx} (h : fMp_table x0 x1 x2 x3 x4 x5 S = some X) : vV Γ tMp_table (mQ Γ (if X.1 = 0 then 0 else 1) (if X.1 = 0 then 0 else 6) X.1 (some (.int X.2.1)) X.2.2) S 0 0 0 [(0, .ref x0), (1, .int x1), (2, .int x2), (3, .int x3), (4, .int x4), (5, .int x5)] [] := by
  unfold fMp_table at h
  refine v_aload_n (pc := 0) (show decode (tC tMp_table) 0 = .ok (.aload_n 0, 1) by decide +kernel) 0 rfl rfl ?_
  refine v_iload_n (pc := 1) (show decode (tC tMp_table) 1 = .ok (.iload_n 1, 1) by decide +kernel) 1 rfl rfl ?_
  obtain ⟨_, e2, h⟩ := ob h
  obtain ⟨k3, r4, S5, e1, ⟨hk, h⟩ | ⟨hk, h⟩⟩ := obT h
  · subst hk
    refine v_callR (pc := 2) (mc := 1) (ms := 6) (v := none) (y := yMp_requireField) (θ' := tMp_requireField) (rm := rMp_requireField) (av := [.ref x0, .int x1]) (st := []) (cMp_requireField (l := gl Γ) hl e1) kMp_requireField iMp_requireField (iv_virt (y := yMp_requireField) (θ' := tMp_requireField) (kd := 0) (As := [.int x1]) rfl (ckd_of e2) kMp_requireField (gT_in 735 (by decide +kernel) rfl) nMp_requireField lMp_requireField mMp_requireField rfl (show decode (tC tMp_table) 2 = .ok (.invokevirtual 85, 3) by decide +kernel)) ⟨by rw [hR]; decide, by rw [hR]; decide, by rw [hR]; decide, by rw [hR]; decide⟩ (Nat.le_of_ble_eq_true rfl) ?_
    refine v_iload_n (pc := 5) (show decode (tC tMp_table) 5 = .ok (.iload_n 2, 1) by decide +kernel) 2 rfl rfl ?_
    refine v_iconst (pc := 6) (v := (-1)) (show decode (tC tMp_table) 6 = .ok (.iconst (-1), 1) by decide +kernel) (by decide) ?_
    refine v_icmp_eq (pc := 7) 15 (show decode (tC tMp_table) 7 = .ok (.if_icmp .eq 8, 3) by decide +kernel) (by decide) (fun c => ?_) (fun c => ?_)
    · replace h := ite_t c h
      exact wMp_table_15 hR hl  x0 x1 x2 x3 x4 x5 S5 h
    · replace h := ite_f c h
      refine v_aload_n (pc := 10) (show decode (tC tMp_table) 10 = .ok (.aload_n 0, 1) by decide +kernel) 0 rfl rfl ?_
      refine v_iload_n (pc := 11) (show decode (tC tMp_table) 11 = .ok (.iload_n 2, 1) by decide +kernel) 2 rfl rfl ?_
      obtain ⟨_, e7, h⟩ := ob h
      obtain ⟨k8, r9, S10, e6, ⟨hk, h⟩ | ⟨hk, h⟩⟩ := obT h
      · subst hk
        refine v_callR (pc := 12) (mc := 1) (ms := 6) (v := none) (y := yMp_requireField) (θ' := tMp_requireField) (rm := rMp_requireField) (av := [.ref x0, .int x2]) (st := []) (cMp_requireField (l := gl Γ) hl e6) kMp_requireField iMp_requireField (iv_virt (y := yMp_requireField) (θ' := tMp_requireField) (kd := 0) (As := [.int x2]) rfl (ckd_of e7) kMp_requireField (gT_in 735 (by decide +kernel) rfl) nMp_requireField lMp_requireField mMp_requireField rfl (show decode (tC tMp_table) 12 = .ok (.invokevirtual 85, 3) by decide +kernel)) ⟨by rw [hR]; decide, by rw [hR]; decide, by rw [hR]; decide, by rw [hR]; decide⟩ (Nat.le_of_ble_eq_true rfl) ?_
        exact wMp_table_15 hR hl  x0 x1 x2 x3 x4 x5 S10 h
      · subst h
        exact v_callT (pc := 12) (mc := 1) (ms := 6) hk (y := yMp_requireField) (θ' := tMp_requireField) (rm := rMp_requireField) (av := [.ref x0, .int x2]) (st := []) (cMp_requireField (l := gl Γ) hl e6) kMp_requireField iMp_requireField (iv_virt (y := yMp_requireField) (θ' := tMp_requireField) (kd := 0) (As := [.int x2]) rfl (ckd_of e7) kMp_requireField (gT_in 735 (by decide +kernel) rfl) nMp_requireField lMp_requireField mMp_requireField rfl (show decode (tC tMp_table) 12 = .ok (.invokevirtual 85, 3) by decide +kernel)) ⟨by rw [hR]; decide, by rw [hR]; decide, by rw [hR]; decide, by rw [hR]; decide⟩ (Nat.le_of_ble_eq_true rfl) rfl
  · subst h
    exact v_callT (pc := 2) (mc := 1) (ms := 6) hk (y := yMp_requireField) (θ' := tMp_requireField) (rm := rMp_requireField) (av := [.ref x0, .int x1]) (st := []) (cMp_requireField (l := gl Γ) hl e1) kMp_requireField iMp_requireField (iv_virt (y := yMp_requireField) (θ' := tMp_requireField) (kd := 0) (As := [.int x1]) rfl (ckd_of e2) kMp_requireField (gT_in 735 (by decide +kernel) rfl) nMp_requireField lMp_requireField mMp_requireField rfl (show decode (tC tMp_table) 2 = .ok (.invokevirtual 85, 3) by decide +kernel)) ⟨by rw [hR]; decide, by rw [hR]; decide, by rw [hR]; decide, by rw [hR]; decide⟩ (Nat.le_of_ble_eq_true rfl) rfl
theorem cMp_table {l : Launch} (hl : l.flags = pinnedFlags ++ [noTraceFlag]) {D : va_G} {dA : Nat → ClassId} {B : Nat} {x0 : Nat} {x1 : Int32} {x2 : Int32} {x3 : Int32} {x4 : Int32} {x5 : Int32} {S : Sx} {X : Nat × Int32 × Sx} (h : fMp_table x0 x1 x2 x3 x4 x5 S = some X) : Mx l yMp_table tMp_table rMp_table (if X.1 = 0 then 0 else 1) (if X.1 = 0 then 0 else 6) D dA B S [.ref x0, .int x1, .int x2, .int x3, .int x4, .int x5] X.1 (some (.int X.2.1)) X.2.2 :=
  mx_of hl (by decide) rfl rfl (Nat.le_of_ble_eq_true rfl) (fun Γ e1 e2 e3 e4 e5 => by subst e1; subst e3; subst e4; subst e5; exact wMp_table e2 hl x0 x1 x2 x3 x4 x5 S h)
/-! MatchPipe.requireTable(I)V -/
def yMp_requireTable : MethodName := ⟨"MatchPipe", "requireTable", "(I)V"⟩
def tMp_requireTable : tM := (prog_1_method_33_code, "MatchPipe", 2, "requireTable", none, [])
def rMp_requireTable : Room := { frames := 6, cells := 1, slots := 6, locals := 110 }
theorem kMp_requireTable : cOf yMp_requireTable tMp_requireTable ∈ gT := gT_in 861 (by decide +kernel) rfl
theorem iMp_requireTable : Cond.initialized yMp_requireTable.cls ∈ gT := gT_in 55 (by decide +kernel) rfl
theorem mMp_requireTable : okM yMp_requireTable 1 := ⟨by decide, by decide, by unfold nPar; decide +kernel⟩
theorem nMp_requireTable : Cond.instanceMethod yMp_requireTable ∈ gT := gT_in 860 (by decide +kernel) rfl
theorem lMp_requireTable : Cond.selects "MatchPipe" yMp_requireTable yMp_requireTable ∈ gT := gT_in 7 (by decide +kernel) rfl
def fMp_requireTable (x0 : Nat) (x1 : Int32) (S : Sx) : Option (Nat × Int32 × Sx) :=
    (gX S 0 1 x0).bind fun v1 =>
    (ckd S v1 1).bind fun _ =>
    bd2 (fPr_hasTable v1 x1 S) fun r5 S6 =>
    if r5 = 0 then
    (some (3, 0, nx S6))
    else
    (some (0, 0, S6))
set_option maxRecDepth 100000 in
set_option maxHeartbeats 4000000 in
theorem wMp_requireTable {Γ : vG} (hR : gR Γ = rMp_requireTable) (hl : (gl Γ).flags = pinnedFlags ++ [noTraceFlag]) (x0 : Nat) (x1 : Int32) (S : Sx) {X : Nat × Int32 × Sx} (h : fMp_requireTable x0 x1 S = some X) : vV Γ tMp_requireTable (mQ Γ (if X.1 = 0 then 0 else 1) (if X.1 = 0 then 0 else 6) X.1 none X.2.2) S 0 0 0 [(0, .ref x0), (1, .int x1)] [] := by
  unfold fMp_requireTable at h
  refine v_aload_n (pc := 0) (show decode (tC tMp_requireTable) 0 = .ok (.aload_n 0, 1) by decide +kernel) 0 rfl rfl ?_
  obtain ⟨v1, e2, h⟩ := ob h
  refine v_getX (pc := 1) oF_Mp_20 e2 (show decode (tC tMp_requireTable) 1 = .ok (.getfield 20, 3) by decide +kernel) ?_
  refine v_iload_n (pc := 4) (show decode (tC tMp_requireTable) 4 = .ok (.iload_n 1, 1) by decide +kernel) 1 rfl rfl ?_
  obtain ⟨_, e4, h⟩ := ob h
  obtain ⟨r5, S6, e3, h⟩ := ob2 h
  refine v_call (pc := 5) (v := (some (.int r5))) (y := yPr_hasTable) (θ' := tPr_hasTable) (rm := rPr_hasTable) (av := [.ref v1, .int x1]) (st := []) (cPr_hasTable (l := gl Γ) hl e3) kPr_hasTable iPr_hasTable (iv_virt (y := yPr_hasTable) (θ' := tPr_hasTable) (kd := 1) (As := [.int x1]) rfl (ckd_of e4) kPr_hasTable (gT_in 862 (by decide +kernel) rfl) nPr_hasTable lPr_hasTable mPr_hasTable rfl (show decode (tC tMp_requireTable) 5 = .ok (.invokevirtual 310, 3) by decide +kernel)) ⟨by rw [hR]; decide, by rw [hR]; decide, by rw [hR]; decide, by rw [hR]; decide⟩ (Nat.le_of_ble_eq_true rfl) ?_
  refine v_if_ne (pc := 8) 22 (show decode (tC tMp_requireTable) 8 = .ok (.ifCond .ne 14, 3) by decide +kernel) (by decide) (fun c => ?_) (fun c => ?_)
  · replace h := ite_f c h
    obtain rfl := Option.some.inj h
    refine v_wide (ce2 := 0) (sl2 := 0) (by decide) (by decide) ?_
    exact v_vret (pc := 22) rfl (show decode (tC tMp_requireTable) 22 = .ok (.return_, 1) by decide +kernel)
  · replace h := ite_t c h
    obtain rfl := Option.some.inj h
    exact v_throw0 (pc := 11) (k := 3) (pc2 := 18) (own := "MatchPipe") (tx := "no such table") rfl ex_3 rfl (strs_in 12 rfl) (show decode (tC tMp_requireTable) 11 = .ok (.new 134, 3) by decide +kernel) (show decode (tC tMp_requireTable) 14 = .ok (.dup, 1) by decide +kernel) (Or.inr ⟨(show decode (tC tMp_requireTable) 15 = .ok (.ldc_w 344, 3) by decide +kernel), rfl⟩) (show decode (tC tMp_requireTable) 18 = .ok (.invokespecial 138, 3) by decide +kernel) (show decode (tC tMp_requireTable) 21 = .ok (.athrow, 1) by decide +kernel) (by rw [hR]; decide) (by rw [hR]; decide) (by rw [hR]; decide) (by rw [hR]; decide)
theorem cMp_requireTable {l : Launch} (hl : l.flags = pinnedFlags ++ [noTraceFlag]) {D : va_G} {dA : Nat → ClassId} {B : Nat} {x0 : Nat} {x1 : Int32} {S : Sx} {X : Nat × Int32 × Sx} (h : fMp_requireTable x0 x1 S = some X) : Mx l yMp_requireTable tMp_requireTable rMp_requireTable (if X.1 = 0 then 0 else 1) (if X.1 = 0 then 0 else 6) D dA B S [.ref x0, .int x1] X.1 none X.2.2 :=
  mx_of hl (by decide) rfl rfl (Nat.le_of_ble_eq_true rfl) (fun Γ e1 e2 e3 e4 e5 => by subst e1; subst e3; subst e4; subst e5; exact wMp_requireTable e2 hl x0 x1 S h)
/-! MatchPipe.apply(I)I -/
def yMp_apply : MethodName := ⟨"MatchPipe", "apply", "(I)I"⟩
def tMp_apply : tM := (prog_1_method_10_code, "MatchPipe", 2, "apply", some .int, [])
def rMp_apply : Room := { frames := 8, cells := 1, slots := 6, locals := 152 }
theorem kMp_apply : cOf yMp_apply tMp_apply ∈ gT := gT_in 857 (by decide +kernel) rfl
theorem iMp_apply : Cond.initialized yMp_apply.cls ∈ gT := gT_in 55 (by decide +kernel) rfl
theorem mMp_apply : okM yMp_apply 1 := ⟨by decide, by decide, by unfold nPar; decide +kernel⟩
theorem nMp_apply : Cond.instanceMethod yMp_apply ∈ gT := gT_in 855 (by decide +kernel) rfl
theorem lMp_apply : Cond.selects "MatchPipe" yMp_apply yMp_apply ∈ gT := gT_in 856 (by decide +kernel) rfl
def fMp_apply (x0 : Nat) (x1 : Int32) (S : Sx) : Option (Nat × Int32 × Sx) :=
    (ckd S x0 0).bind fun _ =>
    bdT (fMp_requireTable x0 x1 S) fun r4 S5 =>
    (gX S5 0 1 x0).bind fun v6 =>
    (gI S5 1 9 v6).bind fun v8 =>
    (ckd S5 x0 0).bind fun _ =>
    bdT (fMp_refuseBeyond x0 v8 16 S5) fun r13 S14 =>
    (gX S14 0 1 x0).bind fun v15 =>
    (gX S14 1 4 v15).bind fun v17 =>
    (gX S14 0 1 x0).bind fun v19 =>
    (gI S14 1 9 v19).bind fun v21 =>
    (aX S14 6 v17 v21).bind fun v23 =>
    (ckd S14 v23 6).bind fun _ =>
    (fSp_beTable v23 x1 S14).bind fun S27 =>
    (gX S27 0 1 x0).bind fun v28 =>
    (gI S27 1 9 v28).bind fun v30 =>
    (pI S27 1 9 v28 (v30 + 1)).bind fun S32 =>
    some (0, v30, S32)
set_option maxRecDepth 100000 in
set_option maxHeartbeats 4000000 in
theorem wMp_apply {Γ : vG} (hR : gR Γ = rMp_apply) (hl : (gl Γ).flags = pinnedFlags ++ [noTraceFlag]) (x0 : Nat) (x1 : Int32) (S : Sx) {X : Nat × Int32 × Sx} (h : fMp_apply x0 x1 S = some X) : vV Γ tMp_apply (mQ Γ (if X.1 = 0 then 0 else 1) (if X.1 = 0 then 0 else 6) X.1 (some (.int X.2.1)) X.2.2) S 0 0 0 [(0, .ref x0), (1, .int x1)] [] := by
  unfold fMp_apply at h
  refine v_aload_n (pc := 0) (show decode (tC tMp_apply) 0 = .ok (.aload_n 0, 1) by decide +kernel) 0 rfl rfl ?_
  refine v_iload_n (pc := 1) (show decode (tC tMp_apply) 1 = .ok (.iload_n 1, 1) by decide +kernel) 1 rfl rfl ?_
  obtain ⟨_, e2, h⟩ := ob h
  obtain ⟨k3, r4, S5, e1, ⟨hk, h⟩ | ⟨hk, h⟩⟩ := obT h
  · subst hk
    refine v_callR (pc := 2) (mc := 1) (ms := 6) (v := none) (y := yMp_requireTable) (θ' := tMp_requireTable) (rm := rMp_requireTable) (av := [.ref x0, .int x1]) (st := []) (cMp_requireTable (l := gl Γ) hl e1) kMp_requireTable iMp_requireTable (iv_virt (y := yMp_requireTable) (θ' := tMp_requireTable) (kd := 0) (As := [.int x1]) rfl (ckd_of e2) kMp_requireTable (gT_in 858 (by decide +kernel) rfl) nMp_requireTable lMp_requireTable mMp_requireTable rfl (show decode (tC tMp_apply) 2 = .ok (.invokevirtual 186, 3) by decide +kernel)) ⟨by rw [hR]; decide, by rw [hR]; decide, by rw [hR]; decide, by rw [hR]; decide⟩ (Nat.le_of_ble_eq_true rfl) ?_
    refine v_aload_n (pc := 5) (show decode (tC tMp_apply) 5 = .ok (.aload_n 0, 1) by decide +kernel) 0 rfl rfl ?_
    refine v_aload_n (pc := 6) (show decode (tC tMp_apply) 6 = .ok (.aload_n 0, 1) by decide +kernel) 0 rfl rfl ?_
    obtain ⟨v6, e7, h⟩ := ob h
    refine v_getX (pc := 7) oF_Mp_20 e7 (show decode (tC tMp_apply) 7 = .ok (.getfield 20, 3) by decide +kernel) ?_
    obtain ⟨v8, e9, h⟩ := ob h
    refine v_getI (pc := 10) oF_Mp_189 (by decide) e9 (show decode (tC tMp_apply) 10 = .ok (.getfield 189, 3) by decide +kernel) ?_
    refine v_bipush (pc := 13) (v := 16) (show decode (tC tMp_apply) 13 = .ok (.bipush 16, 2) by decide +kernel) (by decide) ?_
    obtain ⟨_, e11, h⟩ := ob h
    obtain ⟨k12, r13, S14, e10, ⟨hk, h⟩ | ⟨hk, h⟩⟩ := obT h
    · subst hk
      refine v_callR (pc := 15) (mc := 1) (ms := 6) (v := none) (y := yMp_refuseBeyond) (θ' := tMp_refuseBeyond) (rm := rMp_refuseBeyond) (av := [.ref x0, .int v8, .int 16]) (st := []) (cMp_refuseBeyond (l := gl Γ) hl e10) kMp_refuseBeyond iMp_refuseBeyond (iv_virt (y := yMp_refuseBeyond) (θ' := tMp_refuseBeyond) (kd := 0) (As := [.int v8, .int 16]) rfl (ckd_of e11) kMp_refuseBeyond (gT_in 699 (by decide +kernel) rfl) nMp_refuseBeyond lMp_refuseBeyond mMp_refuseBeyond rfl (show decode (tC tMp_apply) 15 = .ok (.invokevirtual 73, 3) by decide +kernel)) ⟨by rw [hR]; decide, by rw [hR]; decide, by rw [hR]; decide, by rw [hR]; decide⟩ (Nat.le_of_ble_eq_true rfl) ?_
      refine v_aload_n (pc := 18) (show decode (tC tMp_apply) 18 = .ok (.aload_n 0, 1) by decide +kernel) 0 rfl rfl ?_
      obtain ⟨v15, e16, h⟩ := ob h
      refine v_getX (pc := 19) oF_Mp_20 e16 (show decode (tC tMp_apply) 19 = .ok (.getfield 20, 3) by decide +kernel) ?_
      obtain ⟨v17, e18, h⟩ := ob h
      refine v_getX (pc := 22) oF_Mp_192 e18 (show decode (tC tMp_apply) 22 = .ok (.getfield 192, 3) by decide +kernel) ?_
      refine v_aload_n (pc := 25) (show decode (tC tMp_apply) 25 = .ok (.aload_n 0, 1) by decide +kernel) 0 rfl rfl ?_
      obtain ⟨v19, e20, h⟩ := ob h
      refine v_getX (pc := 26) oF_Mp_20 e20 (show decode (tC tMp_apply) 26 = .ok (.getfield 20, 3) by decide +kernel) ?_
      obtain ⟨v21, e22, h⟩ := ob h
      refine v_getI (pc := 29) oF_Mp_189 (by decide) e22 (show decode (tC tMp_apply) 29 = .ok (.getfield 189, 3) by decide +kernel) ?_
      obtain ⟨v23, e24, h⟩ := ob h
      refine v_aald (pc := 32) (kd := 6) rfl e24 (show decode (tC tMp_apply) 32 = .ok (.aaload, 1) by decide +kernel) ?_
      refine v_iload_n (pc := 33) (show decode (tC tMp_apply) 33 = .ok (.iload_n 1, 1) by decide +kernel) 1 rfl rfl ?_
      obtain ⟨_, e26, h⟩ := ob h
      obtain ⟨S27, e25, h⟩ := ob h
      refine v_call (pc := 34) (v := none) (y := ySp_beTable) (θ' := tSp_beTable) (rm := rSp_beTable) (av := [.ref v23, .int x1]) (st := []) (cSp_beTable (l := gl Γ) hl e25) kSp_beTable iSp_beTable (iv_virt (y := ySp_beTable) (θ' := tSp_beTable) (kd := 6) (As := [.int x1]) rfl (ckd_of e26) kSp_beTable (gT_in 867 (by decide +kernel) rfl) nSp_beTable lSp_beTable mSp_beTable rfl (show decode (tC tMp_apply) 34 = .ok (.invokevirtual 196, 3) by decide +kernel)) ⟨by rw [hR]; decide, by rw [hR]; decide, by rw [hR]; decide, by rw [hR]; decide⟩ (Nat.le_of_ble_eq_true rfl) ?_
      refine v_aload_n (pc := 37) (show decode (tC tMp_apply) 37 = .ok (.aload_n 0, 1) by decide +kernel) 0 rfl rfl ?_
      obtain ⟨v28, e29, h⟩ := ob h
      refine v_getX (pc := 38) oF_Mp_20 e29 (show decode (tC tMp_apply) 38 = .ok (.getfield 20, 3) by decide +kernel) ?_
      refine v_dup (pc := 41) (show decode (tC tMp_apply) 41 = .ok (.dup, 1) by decide +kernel) rfl ?_
      obtain ⟨v30, e31, h⟩ := ob h
      refine v_getI (pc := 42) oF_Mp_189 (by decide) e31 (show decode (tC tMp_apply) 42 = .ok (.getfield 189, 3) by decide +kernel) ?_
      refine v_dup_x1 (pc := 45) (show decode (tC tMp_apply) 45 = .ok (.dup_x1, 1) by decide +kernel) rfl rfl ?_
      refine v_iconst (pc := 46) (v := 1) (show decode (tC tMp_apply) 46 = .ok (.iconst 1, 1) by decide +kernel) (by decide) ?_
      refine v_iadd (pc := 47) (show decode (tC tMp_apply) 47 = .ok (.iadd, 1) by decide +kernel) ?_
      obtain ⟨S32, e33, h⟩ := ob h
      refine v_putI (pc := 48) oF_Mp_189 (fin_ok (kd := 1) (k := 9) (by decide +kernel)) e33 (show decode (tC tMp_apply) 48 = .ok (.putfield 189, 3) by decide +kernel) ?_
      obtain rfl := Option.some.inj h
      refine v_wide (ce2 := 0) (sl2 := 0) (by decide) (by decide) ?_
      exact v_iret (pc := 51) rfl (show decode (tC tMp_apply) 51 = .ok (.ireturn, 1) by decide +kernel)
    · subst h
      exact v_callT (pc := 15) (mc := 1) (ms := 6) hk (y := yMp_refuseBeyond) (θ' := tMp_refuseBeyond) (rm := rMp_refuseBeyond) (av := [.ref x0, .int v8, .int 16]) (st := []) (cMp_refuseBeyond (l := gl Γ) hl e10) kMp_refuseBeyond iMp_refuseBeyond (iv_virt (y := yMp_refuseBeyond) (θ' := tMp_refuseBeyond) (kd := 0) (As := [.int v8, .int 16]) rfl (ckd_of e11) kMp_refuseBeyond (gT_in 699 (by decide +kernel) rfl) nMp_refuseBeyond lMp_refuseBeyond mMp_refuseBeyond rfl (show decode (tC tMp_apply) 15 = .ok (.invokevirtual 73, 3) by decide +kernel)) ⟨by rw [hR]; decide, by rw [hR]; decide, by rw [hR]; decide, by rw [hR]; decide⟩ (Nat.le_of_ble_eq_true rfl) rfl
  · subst h
    exact v_callT (pc := 2) (mc := 1) (ms := 6) hk (y := yMp_requireTable) (θ' := tMp_requireTable) (rm := rMp_requireTable) (av := [.ref x0, .int x1]) (st := []) (cMp_requireTable (l := gl Γ) hl e1) kMp_requireTable iMp_requireTable (iv_virt (y := yMp_requireTable) (θ' := tMp_requireTable) (kd := 0) (As := [.int x1]) rfl (ckd_of e2) kMp_requireTable (gT_in 858 (by decide +kernel) rfl) nMp_requireTable lMp_requireTable mMp_requireTable rfl (show decode (tC tMp_apply) 2 = .ok (.invokevirtual 186, 3) by decide +kernel)) ⟨by rw [hR]; decide, by rw [hR]; decide, by rw [hR]; decide, by rw [hR]; decide⟩ (Nat.le_of_ble_eq_true rfl) rfl
theorem cMp_apply {l : Launch} (hl : l.flags = pinnedFlags ++ [noTraceFlag]) {D : va_G} {dA : Nat → ClassId} {B : Nat} {x0 : Nat} {x1 : Int32} {S : Sx} {X : Nat × Int32 × Sx} (h : fMp_apply x0 x1 S = some X) : Mx l yMp_apply tMp_apply rMp_apply (if X.1 = 0 then 0 else 1) (if X.1 = 0 then 0 else 6) D dA B S [.ref x0, .int x1] X.1 (some (.int X.2.1)) X.2.2 :=
  mx_of hl (by decide) rfl rfl (Nat.le_of_ble_eq_true rfl) (fun Γ e1 e2 e3 e4 e5 => by subst e1; subst e3; subst e4; subst e5; exact wMp_apply e2 hl x0 x1 S h)
/-! MatchPipe.test(IIII)I -/
def yMp_test : MethodName := ⟨"MatchPipe", "test", "(IIII)I"⟩
def tMp_test : tM := (prog_1_method_11_code, "MatchPipe", 5, "test", some .int, [])
def rMp_test : Room := { frames := 8, cells := 1, slots := 6, locals := 152 }
theorem kMp_test : cOf yMp_test tMp_test ∈ gT := gT_in 877 (by decide +kernel) rfl
theorem iMp_test : Cond.initialized yMp_test.cls ∈ gT := gT_in 55 (by decide +kernel) rfl
theorem mMp_test : okM yMp_test 4 := ⟨by decide, by decide, by unfold nPar; decide +kernel⟩
theorem nMp_test : Cond.instanceMethod yMp_test ∈ gT := gT_in 875 (by decide +kernel) rfl
theorem lMp_test : Cond.selects "MatchPipe" yMp_test yMp_test ∈ gT := gT_in 876 (by decide +kernel) rfl
def fMp_test_14   (S : Sx) : Option (Nat × Int32 × Sx) :=
    some (1, 0, nx S)
set_option maxRecDepth 100000 in
set_option maxHeartbeats 4000000 in
theorem wMp_test_14 {Γ : vG} (hR : gR Γ = rMp_test) (hl : (gl Γ).flags = pinnedFlags ++ [noTraceFlag]) {X : Nat × Int32 × Sx}  : ∀  (S : Sx), fMp_test_14   S = some X → vV Γ tMp_test (mQ Γ (if X.1 = 0 then 0 else 1) (if X.1 = 0 then 0 else 6) X.1 (some (.int X.2.1)) X.2.2) S 0 0 14 [] [] := by
  intro  S h
  unfold fMp_test_14 at h
  obtain rfl := Option.some.inj h
  exact v_throw0 (pc := 14) (k := 1) (pc2 := 20) (own := "MatchPipe") (tx := "no such relation") rfl ex_1 rfl (strs_in 13 rfl) (show decode (tC tMp_test) 14 = .ok (.new 63, 3) by decide +kernel) (show decode (tC tMp_test) 17 = .ok (.dup, 1) by decide +kernel) (Or.inl ⟨(show decode (tC tMp_test) 18 = .ok (.ldc 201, 2) by decide +kernel), rfl⟩) (show decode (tC tMp_test) 20 = .ok (.invokespecial 67, 3) by decide +kernel) (show decode (tC tMp_test) 23 = .ok (.athrow, 1) by decide +kernel) (by rw [hR]; decide) (by rw [hR]; decide) (by rw [hR]; decide) (by rw [hR]; decide)
def fMp_test (x0 : Nat) (x1 : Int32) (x2 : Int32) (x3 : Int32) (x4 : Int32) (S : Sx) : Option (Nat × Int32 × Sx) :=
    (ckd S x0 0).bind fun _ =>
    bdT (fMp_requireField x0 x1 S) fun r4 S5 =>
    if x2 < 0 then
    (fMp_test_14  S5)
    else
    (if x2 ≤ 3 then
    ((gX S5 0 1 x0).bind fun v6 =>
    (gI S5 1 9 v6).bind fun v8 =>
    (ckd S5 x0 0).bind fun _ =>
    bdT (fMp_refuseBeyond x0 v8 16 S5) fun r13 S14 =>
    (gX S14 0 1 x0).bind fun v15 =>
    (gX S14 1 4 v15).bind fun v17 =>
    (gX S14 0 1 x0).bind fun v19 =>
    (gI S14 1 9 v19).bind fun v21 =>
    (aX S14 6 v17 v21).bind fun v23 =>
    (ckd S14 v23 6).bind fun _ =>
    (fSp_beTest v23 x1 x2 x3 x4 S14).bind fun S27 =>
    (gX S27 0 1 x0).bind fun v28 =>
    (gI S27 1 9 v28).bind fun v30 =>
    (pI S27 1 9 v28 (v30 + 1)).bind fun S32 =>
    some (0, v30, S32))
    else
    (fMp_test_14  S5))
set_option maxRecDepth 100000 in
set_option maxHeartbeats 4000000 in
theorem wMp_test {Γ : vG} (hR : gR Γ = rMp_test) (hl : (gl Γ).flags = pinnedFlags ++ [noTraceFlag]) (x0 : Nat) (x1 : Int32) (x2 : Int32) (x3 : Int32) (x4 : Int32) (S : Sx) {X : Nat × Int32 × Sx} (h : fMp_test x0 x1 x2 x3 x4 S = some X) : vV Γ tMp_test (mQ Γ (if X.1 = 0 then 0 else 1) (if X.1 = 0 then 0 else 6) X.1 (some (.int X.2.1)) X.2.2) S 0 0 0 [(0, .ref x0), (1, .int x1), (2, .int x2), (3, .int x3), (4, .int x4)] [] := by
  unfold fMp_test at h
  refine v_aload_n (pc := 0) (show decode (tC tMp_test) 0 = .ok (.aload_n 0, 1) by decide +kernel) 0 rfl rfl ?_
  refine v_iload_n (pc := 1) (show decode (tC tMp_test) 1 = .ok (.iload_n 1, 1) by decide +kernel) 1 rfl rfl ?_
  obtain ⟨_, e2, h⟩ := ob h
  obtain ⟨k3, r4, S5, e1, ⟨hk, h⟩ | ⟨hk, h⟩⟩ := obT h
  · subst hk
    refine v_callR (pc := 2) (mc := 1) (ms := 6) (v := none) (y := yMp_requireField) (θ' := tMp_requireField) (rm := rMp_requireField) (av := [.ref x0, .int x1]) (st := []) (cMp_requireField (l := gl Γ) hl e1) kMp_requireField iMp_requireField (iv_virt (y := yMp_requireField) (θ' := tMp_requireField) (kd := 0) (As := [.int x1]) rfl (ckd_of e2) kMp_requireField (gT_in 735 (by decide +kernel) rfl) nMp_requireField lMp_requireField mMp_requireField rfl (show decode (tC tMp_test) 2 = .ok (.invokevirtual 85, 3) by decide +kernel)) ⟨by rw [hR]; decide, by rw [hR]; decide, by rw [hR]; decide, by rw [hR]; decide⟩ (Nat.le_of_ble_eq_true rfl) ?_
    refine v_iload_n (pc := 5) (show decode (tC tMp_test) 5 = .ok (.iload_n 2, 1) by decide +kernel) 2 rfl rfl ?_
    refine v_if_lt (pc := 6) 14 (show decode (tC tMp_test) 6 = .ok (.ifCond .lt 8, 3) by decide +kernel) (by decide) (fun c => ?_) (fun c => ?_)
    · replace h := ite_t c h
      refine v_sub [] [] rfl ?_
      exact wMp_test_14 hR hl  S5 h
    · replace h := ite_f c h
      refine v_iload_n (pc := 9) (show decode (tC tMp_test) 9 = .ok (.iload_n 2, 1) by decide +kernel) 2 rfl rfl ?_
      refine v_iconst (pc := 10) (v := 3) (show decode (tC tMp_test) 10 = .ok (.iconst 3, 1) by decide +kernel) (by decide) ?_
      refine v_icmp_le (pc := 11) 24 (show decode (tC tMp_test) 11 = .ok (.if_icmp .le 13, 3) by decide +kernel) (by decide) (fun c => ?_) (fun c => ?_)
      · replace h := ite_t c h
        refine v_aload_n (pc := 24) (show decode (tC tMp_test) 24 = .ok (.aload_n 0, 1) by decide +kernel) 0 rfl rfl ?_
        refine v_aload_n (pc := 25) (show decode (tC tMp_test) 25 = .ok (.aload_n 0, 1) by decide +kernel) 0 rfl rfl ?_
        obtain ⟨v6, e7, h⟩ := ob h
        refine v_getX (pc := 26) oF_Mp_20 e7 (show decode (tC tMp_test) 26 = .ok (.getfield 20, 3) by decide +kernel) ?_
        obtain ⟨v8, e9, h⟩ := ob h
        refine v_getI (pc := 29) oF_Mp_189 (by decide) e9 (show decode (tC tMp_test) 29 = .ok (.getfield 189, 3) by decide +kernel) ?_
        refine v_bipush (pc := 32) (v := 16) (show decode (tC tMp_test) 32 = .ok (.bipush 16, 2) by decide +kernel) (by decide) ?_
        obtain ⟨_, e11, h⟩ := ob h
        obtain ⟨k12, r13, S14, e10, ⟨hk, h⟩ | ⟨hk, h⟩⟩ := obT h
        · subst hk
          refine v_callR (pc := 34) (mc := 1) (ms := 6) (v := none) (y := yMp_refuseBeyond) (θ' := tMp_refuseBeyond) (rm := rMp_refuseBeyond) (av := [.ref x0, .int v8, .int 16]) (st := []) (cMp_refuseBeyond (l := gl Γ) hl e10) kMp_refuseBeyond iMp_refuseBeyond (iv_virt (y := yMp_refuseBeyond) (θ' := tMp_refuseBeyond) (kd := 0) (As := [.int v8, .int 16]) rfl (ckd_of e11) kMp_refuseBeyond (gT_in 699 (by decide +kernel) rfl) nMp_refuseBeyond lMp_refuseBeyond mMp_refuseBeyond rfl (show decode (tC tMp_test) 34 = .ok (.invokevirtual 73, 3) by decide +kernel)) ⟨by rw [hR]; decide, by rw [hR]; decide, by rw [hR]; decide, by rw [hR]; decide⟩ (Nat.le_of_ble_eq_true rfl) ?_
          refine v_aload_n (pc := 37) (show decode (tC tMp_test) 37 = .ok (.aload_n 0, 1) by decide +kernel) 0 rfl rfl ?_
          obtain ⟨v15, e16, h⟩ := ob h
          refine v_getX (pc := 38) oF_Mp_20 e16 (show decode (tC tMp_test) 38 = .ok (.getfield 20, 3) by decide +kernel) ?_
          obtain ⟨v17, e18, h⟩ := ob h
          refine v_getX (pc := 41) oF_Mp_192 e18 (show decode (tC tMp_test) 41 = .ok (.getfield 192, 3) by decide +kernel) ?_
          refine v_aload_n (pc := 44) (show decode (tC tMp_test) 44 = .ok (.aload_n 0, 1) by decide +kernel) 0 rfl rfl ?_
          obtain ⟨v19, e20, h⟩ := ob h
          refine v_getX (pc := 45) oF_Mp_20 e20 (show decode (tC tMp_test) 45 = .ok (.getfield 20, 3) by decide +kernel) ?_
          obtain ⟨v21, e22, h⟩ := ob h
          refine v_getI (pc := 48) oF_Mp_189 (by decide) e22 (show decode (tC tMp_test) 48 = .ok (.getfield 189, 3) by decide +kernel) ?_
          obtain ⟨v23, e24, h⟩ := ob h
          refine v_aald (pc := 51) (kd := 6) rfl e24 (show decode (tC tMp_test) 51 = .ok (.aaload, 1) by decide +kernel) ?_
          refine v_iload_n (pc := 52) (show decode (tC tMp_test) 52 = .ok (.iload_n 1, 1) by decide +kernel) 1 rfl rfl ?_
          refine v_iload_n (pc := 53) (show decode (tC tMp_test) 53 = .ok (.iload_n 2, 1) by decide +kernel) 2 rfl rfl ?_
          refine v_iload_n (pc := 54) (show decode (tC tMp_test) 54 = .ok (.iload_n 3, 1) by decide +kernel) 3 rfl rfl ?_
          refine v_iload (pc := 55) (show decode (tC tMp_test) 55 = .ok (.iload 4, 2) by decide +kernel) 4 rfl ?_
          obtain ⟨_, e26, h⟩ := ob h
          obtain ⟨S27, e25, h⟩ := ob h
          refine v_call (pc := 57) (v := none) (y := ySp_beTest) (θ' := tSp_beTest) (rm := rSp_beTest) (av := [.ref v23, .int x1, .int x2, .int x3, .int x4]) (st := []) (cSp_beTest (l := gl Γ) hl e25) kSp_beTest iSp_beTest (iv_virt (y := ySp_beTest) (θ' := tSp_beTest) (kd := 6) (As := [.int x1, .int x2, .int x3, .int x4]) rfl (ckd_of e26) kSp_beTest (gT_in 879 (by decide +kernel) rfl) nSp_beTest lSp_beTest mSp_beTest rfl (show decode (tC tMp_test) 57 = .ok (.invokevirtual 203, 3) by decide +kernel)) ⟨by rw [hR]; decide, by rw [hR]; decide, by rw [hR]; decide, by rw [hR]; decide⟩ (Nat.le_of_ble_eq_true rfl) ?_
          refine v_aload_n (pc := 60) (show decode (tC tMp_test) 60 = .ok (.aload_n 0, 1) by decide +kernel) 0 rfl rfl ?_
          obtain ⟨v28, e29, h⟩ := ob h
          refine v_getX (pc := 61) oF_Mp_20 e29 (show decode (tC tMp_test) 61 = .ok (.getfield 20, 3) by decide +kernel) ?_
          refine v_dup (pc := 64) (show decode (tC tMp_test) 64 = .ok (.dup, 1) by decide +kernel) rfl ?_
          obtain ⟨v30, e31, h⟩ := ob h
          refine v_getI (pc := 65) oF_Mp_189 (by decide) e31 (show decode (tC tMp_test) 65 = .ok (.getfield 189, 3) by decide +kernel) ?_
          refine v_dup_x1 (pc := 68) (show decode (tC tMp_test) 68 = .ok (.dup_x1, 1) by decide +kernel) rfl rfl ?_
          refine v_iconst (pc := 69) (v := 1) (show decode (tC tMp_test) 69 = .ok (.iconst 1, 1) by decide +kernel) (by decide) ?_
          refine v_iadd (pc := 70) (show decode (tC tMp_test) 70 = .ok (.iadd, 1) by decide +kernel) ?_
          obtain ⟨S32, e33, h⟩ := ob h
          refine v_putI (pc := 71) oF_Mp_189 (fin_ok (kd := 1) (k := 9) (by decide +kernel)) e33 (show decode (tC tMp_test) 71 = .ok (.putfield 189, 3) by decide +kernel) ?_
          obtain rfl := Option.some.inj h
          refine v_wide (ce2 := 0) (sl2 := 0) (by decide) (by decide) ?_
          exact v_iret (pc := 74) rfl (show decode (tC tMp_test) 74 = .ok (.ireturn, 1) by decide +kernel)
        · subst h
          exact v_callT (pc := 34) (mc := 1) (ms := 6) hk (y := yMp_refuseBeyond) (θ' := tMp_refuseBeyond) (rm := rMp_refuseBeyond) (av := [.ref x0, .int v8, .int 16]) (st := []) (cMp_refuseBeyond (l := gl Γ) hl e10) kMp_refuseBeyond iMp_refuseBeyond (iv_virt (y := yMp_refuseBeyond) (θ' := tMp_refuseBeyond) (kd := 0) (As := [.int v8, .int 16]) rfl (ckd_of e11) kMp_refuseBeyond (gT_in 699 (by decide +kernel) rfl) nMp_refuseBeyond lMp_refuseBeyond mMp_refuseBeyond rfl (show decode (tC tMp_test) 34 = .ok (.invokevirtual 73, 3) by decide +kernel)) ⟨by rw [hR]; decide, by rw [hR]; decide, by rw [hR]; decide, by rw [hR]; decide⟩ (Nat.le_of_ble_eq_true rfl) rfl
      · replace h := ite_f c h
        refine v_sub [] [] rfl ?_
        exact wMp_test_14 hR hl  S5 h
  · subst h
    exact v_callT (pc := 2) (mc := 1) (ms := 6) hk (y := yMp_requireField) (θ' := tMp_requireField) (rm := rMp_requireField) (av := [.ref x0, .int x1]) (st := []) (cMp_requireField (l := gl Γ) hl e1) kMp_requireField iMp_requireField (iv_virt (y := yMp_requireField) (θ' := tMp_requireField) (kd := 0) (As := [.int x1]) rfl (ckd_of e2) kMp_requireField (gT_in 735 (by decide +kernel) rfl) nMp_requireField lMp_requireField mMp_requireField rfl (show decode (tC tMp_test) 2 = .ok (.invokevirtual 85, 3) by decide +kernel)) ⟨by rw [hR]; decide, by rw [hR]; decide, by rw [hR]; decide, by rw [hR]; decide⟩ (Nat.le_of_ble_eq_true rfl) rfl
theorem cMp_test {l : Launch} (hl : l.flags = pinnedFlags ++ [noTraceFlag]) {D : va_G} {dA : Nat → ClassId} {B : Nat} {x0 : Nat} {x1 : Int32} {x2 : Int32} {x3 : Int32} {x4 : Int32} {S : Sx} {X : Nat × Int32 × Sx} (h : fMp_test x0 x1 x2 x3 x4 S = some X) : Mx l yMp_test tMp_test rMp_test (if X.1 = 0 then 0 else 1) (if X.1 = 0 then 0 else 6) D dA B S [.ref x0, .int x1, .int x2, .int x3, .int x4] X.1 (some (.int X.2.1)) X.2.2 :=
  mx_of hl (by decide) rfl rfl (Nat.le_of_ble_eq_true rfl) (fun Γ e1 e2 e3 e4 e5 => by subst e1; subst e3; subst e4; subst e5; exact wMp_test e2 hl x0 x1 x2 x3 x4 S h)
/-! MatchPipe.lay()I -/
def yMp_lay : MethodName := ⟨"MatchPipe", "lay", "()I"⟩
def tMp_lay : tM := (prog_1_method_12_code, "MatchPipe", 1, "lay", some .int, [])
def rMp_lay : Room := { frames := 7, cells := 1, slots := 6, locals := 132 }
theorem kMp_lay : cOf yMp_lay tMp_lay ∈ gT := gT_in 889 (by decide +kernel) rfl
theorem iMp_lay : Cond.initialized yMp_lay.cls ∈ gT := gT_in 55 (by decide +kernel) rfl
theorem mMp_lay : okM yMp_lay 0 := ⟨by decide, by decide, by unfold nPar; decide +kernel⟩
theorem nMp_lay : Cond.instanceMethod yMp_lay ∈ gT := gT_in 887 (by decide +kernel) rfl
theorem lMp_lay : Cond.selects "MatchPipe" yMp_lay yMp_lay ∈ gT := gT_in 888 (by decide +kernel) rfl
def fMp_lay (x0 : Nat) (S : Sx) : Option (Nat × Int32 × Sx) :=
    (ckd S x0 0).bind fun _ =>
    bdT (fMp_refuseIfLaid x0 S) fun r4 S5 =>
    (gX S5 0 2 x0).bind fun v6 =>
    (gX S5 0 1 x0).bind fun v8 =>
    (ckd S5 v6 7).bind fun _ =>
    (fLa_plan v6 v8 S5).bind fun S12 =>
    (gX S12 0 2 x0).bind fun v13 =>
    (gI S12 7 3 v13).bind fun v15 =>
    if v15 = 0 then
    (some (1, 0, nx S12))
    else
    ((gX S12 0 2 x0).bind fun v17 =>
    (gI S12 7 4 v17).bind fun v19 =>
    some (0, v19, S12))
set_option maxRecDepth 100000 in
set_option maxHeartbeats 4000000 in
theorem wMp_lay {Γ : vG} (hR : gR Γ = rMp_lay) (hl : (gl Γ).flags = pinnedFlags ++ [noTraceFlag]) (x0 : Nat) (S : Sx) {X : Nat × Int32 × Sx} (h : fMp_lay x0 S = some X) : vV Γ tMp_lay (mQ Γ (if X.1 = 0 then 0 else 1) (if X.1 = 0 then 0 else 6) X.1 (some (.int X.2.1)) X.2.2) S 0 0 0 [(0, .ref x0)] [] := by
  unfold fMp_lay at h
  refine v_aload_n (pc := 0) (show decode (tC tMp_lay) 0 = .ok (.aload_n 0, 1) by decide +kernel) 0 rfl rfl ?_
  obtain ⟨_, e2, h⟩ := ob h
  obtain ⟨k3, r4, S5, e1, ⟨hk, h⟩ | ⟨hk, h⟩⟩ := obT h
  · subst hk
    refine v_callR (pc := 1) (mc := 1) (ms := 6) (v := none) (y := yMp_refuseIfLaid) (θ' := tMp_refuseIfLaid) (rm := rMp_refuseIfLaid) (av := [.ref x0]) (st := []) (cMp_refuseIfLaid (l := gl Γ) hl e1) kMp_refuseIfLaid iMp_refuseIfLaid (iv_virt (y := yMp_refuseIfLaid) (θ' := tMp_refuseIfLaid) (kd := 0) (As := []) rfl (ckd_of e2) kMp_refuseIfLaid (gT_in 703 (by decide +kernel) rfl) nMp_refuseIfLaid lMp_refuseIfLaid mMp_refuseIfLaid rfl (show decode (tC tMp_lay) 1 = .ok (.invokevirtual 114, 3) by decide +kernel)) ⟨by rw [hR]; decide, by rw [hR]; decide, by rw [hR]; decide, by rw [hR]; decide⟩ (Nat.le_of_ble_eq_true rfl) ?_
    refine v_aload_n (pc := 4) (show decode (tC tMp_lay) 4 = .ok (.aload_n 0, 1) by decide +kernel) 0 rfl rfl ?_
    obtain ⟨v6, e7, h⟩ := ob h
    refine v_getX (pc := 5) oF_Mp_25 e7 (show decode (tC tMp_lay) 5 = .ok (.getfield 25, 3) by decide +kernel) ?_
    refine v_aload_n (pc := 8) (show decode (tC tMp_lay) 8 = .ok (.aload_n 0, 1) by decide +kernel) 0 rfl rfl ?_
    obtain ⟨v8, e9, h⟩ := ob h
    refine v_getX (pc := 9) oF_Mp_20 e9 (show decode (tC tMp_lay) 9 = .ok (.getfield 20, 3) by decide +kernel) ?_
    obtain ⟨_, e11, h⟩ := ob h
    obtain ⟨S12, e10, h⟩ := ob h
    refine v_call (pc := 12) (v := none) (y := yLa_plan) (θ' := tLa_plan) (rm := rLa_plan) (av := [.ref v6, .ref v8]) (st := []) (cLa_plan (l := gl Γ) hl e10) kLa_plan iLa_plan (iv_virt (y := yLa_plan) (θ' := tLa_plan) (kd := 7) (As := [.ref v8]) rfl (ckd_of e11) kLa_plan (gT_in 890 (by decide +kernel) rfl) nLa_plan lLa_plan mLa_plan rfl (show decode (tC tMp_lay) 12 = .ok (.invokevirtual 206, 3) by decide +kernel)) ⟨by rw [hR]; decide, by rw [hR]; decide, by rw [hR]; decide, by rw [hR]; decide⟩ (Nat.le_of_ble_eq_true rfl) ?_
    refine v_aload_n (pc := 15) (show decode (tC tMp_lay) 15 = .ok (.aload_n 0, 1) by decide +kernel) 0 rfl rfl ?_
    obtain ⟨v13, e14, h⟩ := ob h
    refine v_getX (pc := 16) oF_Mp_25 e14 (show decode (tC tMp_lay) 16 = .ok (.getfield 25, 3) by decide +kernel) ?_
    obtain ⟨v15, e16, h⟩ := ob h
    refine v_getI (pc := 19) oF_Mp_210 (by decide) e16 (show decode (tC tMp_lay) 19 = .ok (.getfield 210, 3) by decide +kernel) ?_
    refine v_if_ne (pc := 22) 35 (show decode (tC tMp_lay) 22 = .ok (.ifCond .ne 13, 3) by decide +kernel) (by decide) (fun c => ?_) (fun c => ?_)
    · replace h := ite_f c h
      refine v_aload_n (pc := 35) (show decode (tC tMp_lay) 35 = .ok (.aload_n 0, 1) by decide +kernel) 0 rfl rfl ?_
      obtain ⟨v17, e18, h⟩ := ob h
      refine v_getX (pc := 36) oF_Mp_25 e18 (show decode (tC tMp_lay) 36 = .ok (.getfield 25, 3) by decide +kernel) ?_
      obtain ⟨v19, e20, h⟩ := ob h
      refine v_getI (pc := 39) oF_Mp_216 (by decide) e20 (show decode (tC tMp_lay) 39 = .ok (.getfield 216, 3) by decide +kernel) ?_
      obtain rfl := Option.some.inj h
      refine v_wide (ce2 := 0) (sl2 := 0) (by decide) (by decide) ?_
      exact v_iret (pc := 42) rfl (show decode (tC tMp_lay) 42 = .ok (.ireturn, 1) by decide +kernel)
    · replace h := ite_t c h
      obtain rfl := Option.some.inj h
      exact v_throw0 (pc := 25) (k := 1) (pc2 := 31) (own := "MatchPipe") (tx := "it can't be laid") rfl ex_1 rfl (strs_in 14 rfl) (show decode (tC tMp_lay) 25 = .ok (.new 63, 3) by decide +kernel) (show decode (tC tMp_lay) 28 = .ok (.dup, 1) by decide +kernel) (Or.inl ⟨(show decode (tC tMp_lay) 29 = .ok (.ldc 214, 2) by decide +kernel), rfl⟩) (show decode (tC tMp_lay) 31 = .ok (.invokespecial 67, 3) by decide +kernel) (show decode (tC tMp_lay) 34 = .ok (.athrow, 1) by decide +kernel) (by rw [hR]; decide) (by rw [hR]; decide) (by rw [hR]; decide) (by rw [hR]; decide)
  · subst h
    exact v_callT (pc := 1) (mc := 1) (ms := 6) hk (y := yMp_refuseIfLaid) (θ' := tMp_refuseIfLaid) (rm := rMp_refuseIfLaid) (av := [.ref x0]) (st := []) (cMp_refuseIfLaid (l := gl Γ) hl e1) kMp_refuseIfLaid iMp_refuseIfLaid (iv_virt (y := yMp_refuseIfLaid) (θ' := tMp_refuseIfLaid) (kd := 0) (As := []) rfl (ckd_of e2) kMp_refuseIfLaid (gT_in 703 (by decide +kernel) rfl) nMp_refuseIfLaid lMp_refuseIfLaid mMp_refuseIfLaid rfl (show decode (tC tMp_lay) 1 = .ok (.invokevirtual 114, 3) by decide +kernel)) ⟨by rw [hR]; decide, by rw [hR]; decide, by rw [hR]; decide, by rw [hR]; decide⟩ (Nat.le_of_ble_eq_true rfl) rfl
theorem cMp_lay {l : Launch} (hl : l.flags = pinnedFlags ++ [noTraceFlag]) {D : va_G} {dA : Nat → ClassId} {B : Nat} {x0 : Nat} {S : Sx} {X : Nat × Int32 × Sx} (h : fMp_lay x0 S = some X) : Mx l yMp_lay tMp_lay rMp_lay (if X.1 = 0 then 0 else 1) (if X.1 = 0 then 0 else 6) D dA B S [.ref x0] X.1 (some (.int X.2.1)) X.2.2 :=
  mx_of hl (by decide) rfl rfl (Nat.le_of_ble_eq_true rfl) (fun Γ e1 e2 e3 e4 e5 => by subst e1; subst e3; subst e4; subst e5; exact wMp_lay e2 hl x0 S h)
/-! MatchPipe.requireLaid()V -/
def yMp_requireLaid : MethodName := ⟨"MatchPipe", "requireLaid", "()V"⟩
def tMp_requireLaid : tM := (prog_1_method_29_code, "MatchPipe", 1, "requireLaid", none, [])
def rMp_requireLaid : Room := { frames := 6, cells := 1, slots := 6, locals := 110 }
theorem kMp_requireLaid : cOf yMp_requireLaid tMp_requireLaid ∈ gT := gT_in 981 (by decide +kernel) rfl
theorem iMp_requireLaid : Cond.initialized yMp_requireLaid.cls ∈ gT := gT_in 55 (by decide +kernel) rfl
theorem mMp_requireLaid : okM yMp_requireLaid 0 := ⟨by decide, by decide, by unfold nPar; decide +kernel⟩
theorem nMp_requireLaid : Cond.instanceMethod yMp_requireLaid ∈ gT := gT_in 980 (by decide +kernel) rfl
theorem lMp_requireLaid : Cond.selects "MatchPipe" yMp_requireLaid yMp_requireLaid ∈ gT := gT_in 11 (by decide +kernel) rfl
def fMp_requireLaid (x0 : Nat) (S : Sx) : Option (Nat × Int32 × Sx) :=
    (gX S 0 2 x0).bind fun v1 =>
    (gI S 7 3 v1).bind fun v3 =>
    if v3 = 0 then
    (some (2, 0, nx S))
    else
    (some (0, 0, S))
set_option maxRecDepth 100000 in
set_option maxHeartbeats 4000000 in
theorem wMp_requireLaid {Γ : vG} (hR : gR Γ = rMp_requireLaid) (hl : (gl Γ).flags = pinnedFlags ++ [noTraceFlag]) (x0 : Nat) (S : Sx) {X : Nat × Int32 × Sx} (h : fMp_requireLaid x0 S = some X) : vV Γ tMp_requireLaid (mQ Γ (if X.1 = 0 then 0 else 1) (if X.1 = 0 then 0 else 6) X.1 none X.2.2) S 0 0 0 [(0, .ref x0)] [] := by
  unfold fMp_requireLaid at h
  refine v_aload_n (pc := 0) (show decode (tC tMp_requireLaid) 0 = .ok (.aload_n 0, 1) by decide +kernel) 0 rfl rfl ?_
  obtain ⟨v1, e2, h⟩ := ob h
  refine v_getX (pc := 1) oF_Mp_25 e2 (show decode (tC tMp_requireLaid) 1 = .ok (.getfield 25, 3) by decide +kernel) ?_
  obtain ⟨v3, e4, h⟩ := ob h
  refine v_getI (pc := 4) oF_Mp_210 (by decide) e4 (show decode (tC tMp_requireLaid) 4 = .ok (.getfield 210, 3) by decide +kernel) ?_
  refine v_if_ne (pc := 7) 21 (show decode (tC tMp_requireLaid) 7 = .ok (.ifCond .ne 14, 3) by decide +kernel) (by decide) (fun c => ?_) (fun c => ?_)
  · replace h := ite_f c h
    obtain rfl := Option.some.inj h
    refine v_wide (ce2 := 0) (sl2 := 0) (by decide) (by decide) ?_
    exact v_vret (pc := 21) rfl (show decode (tC tMp_requireLaid) 21 = .ok (.return_, 1) by decide +kernel)
  · replace h := ite_t c h
    obtain rfl := Option.some.inj h
    exact v_throw0 (pc := 10) (k := 2) (pc2 := 17) (own := "MatchPipe") (tx := "it is not laid") rfl ex_2 rfl (strs_in 15 rfl) (show decode (tC tMp_requireLaid) 10 = .ok (.new 326, 3) by decide +kernel) (show decode (tC tMp_requireLaid) 13 = .ok (.dup, 1) by decide +kernel) (Or.inr ⟨(show decode (tC tMp_requireLaid) 14 = .ok (.ldc_w 333, 3) by decide +kernel), rfl⟩) (show decode (tC tMp_requireLaid) 17 = .ok (.invokespecial 330, 3) by decide +kernel) (show decode (tC tMp_requireLaid) 20 = .ok (.athrow, 1) by decide +kernel) (by rw [hR]; decide) (by rw [hR]; decide) (by rw [hR]; decide) (by rw [hR]; decide)
theorem cMp_requireLaid {l : Launch} (hl : l.flags = pinnedFlags ++ [noTraceFlag]) {D : va_G} {dA : Nat → ClassId} {B : Nat} {x0 : Nat} {S : Sx} {X : Nat × Int32 × Sx} (h : fMp_requireLaid x0 S = some X) : Mx l yMp_requireLaid tMp_requireLaid rMp_requireLaid (if X.1 = 0 then 0 else 1) (if X.1 = 0 then 0 else 6) D dA B S [.ref x0] X.1 none X.2.2 :=
  mx_of hl (by decide) rfl rfl (Nat.le_of_ble_eq_true rfl) (fun Γ e1 e2 e3 e4 e5 => by subst e1; subst e3; subst e4; subst e5; exact wMp_requireLaid e2 hl x0 S h)
/-! MatchPipe.requireRoomInLine()V -/
def yMp_requireRoomInLine : MethodName := ⟨"MatchPipe", "requireRoomInLine", "()V"⟩
def tMp_requireRoomInLine : tM := (prog_1_method_30_code, "MatchPipe", 1, "requireRoomInLine", none, [])
def rMp_requireRoomInLine : Room := { frames := 7, cells := 1, slots := 6, locals := 130 }
theorem kMp_requireRoomInLine : cOf yMp_requireRoomInLine tMp_requireRoomInLine ∈ gT := gT_in 977 (by decide +kernel) rfl
theorem iMp_requireRoomInLine : Cond.initialized yMp_requireRoomInLine.cls ∈ gT := gT_in 55 (by decide +kernel) rfl
theorem mMp_requireRoomInLine : okM yMp_requireRoomInLine 0 := ⟨by decide, by decide, by unfold nPar; decide +kernel⟩
theorem nMp_requireRoomInLine : Cond.instanceMethod yMp_requireRoomInLine ∈ gT := gT_in 976 (by decide +kernel) rfl
theorem lMp_requireRoomInLine : Cond.selects "MatchPipe" yMp_requireRoomInLine yMp_requireRoomInLine ∈ gT := gT_in 10 (by decide +kernel) rfl
def fMp_requireRoomInLine (x0 : Nat) (S : Sx) : Option (Nat × Int32 × Sx) :=
    (ckd S x0 0).bind fun _ =>
    bdT (fMp_requireLaid x0 S) fun r4 S5 =>
    (gX S5 0 0 x0).bind fun v6 =>
    (ckd S5 v6 8).bind fun _ =>
    bd2 (fLi_inLine v6 S5) fun r10 S11 =>
    if r10 < 40 then
    (some (0, 0, S11))
    else
    (some (2, 0, nx S11))
set_option maxRecDepth 100000 in
set_option maxHeartbeats 4000000 in
theorem wMp_requireRoomInLine {Γ : vG} (hR : gR Γ = rMp_requireRoomInLine) (hl : (gl Γ).flags = pinnedFlags ++ [noTraceFlag]) (x0 : Nat) (S : Sx) {X : Nat × Int32 × Sx} (h : fMp_requireRoomInLine x0 S = some X) : vV Γ tMp_requireRoomInLine (mQ Γ (if X.1 = 0 then 0 else 1) (if X.1 = 0 then 0 else 6) X.1 none X.2.2) S 0 0 0 [(0, .ref x0)] [] := by
  unfold fMp_requireRoomInLine at h
  refine v_aload_n (pc := 0) (show decode (tC tMp_requireRoomInLine) 0 = .ok (.aload_n 0, 1) by decide +kernel) 0 rfl rfl ?_
  obtain ⟨_, e2, h⟩ := ob h
  obtain ⟨k3, r4, S5, e1, ⟨hk, h⟩ | ⟨hk, h⟩⟩ := obT h
  · subst hk
    refine v_callR (pc := 1) (mc := 1) (ms := 6) (v := none) (y := yMp_requireLaid) (θ' := tMp_requireLaid) (rm := rMp_requireLaid) (av := [.ref x0]) (st := []) (cMp_requireLaid (l := gl Γ) hl e1) kMp_requireLaid iMp_requireLaid (iv_virt (y := yMp_requireLaid) (θ' := tMp_requireLaid) (kd := 0) (As := []) rfl (ckd_of e2) kMp_requireLaid (gT_in 978 (by decide +kernel) rfl) nMp_requireLaid lMp_requireLaid mMp_requireLaid rfl (show decode (tC tMp_requireRoomInLine) 1 = .ok (.invokevirtual 270, 3) by decide +kernel)) ⟨by rw [hR]; decide, by rw [hR]; decide, by rw [hR]; decide, by rw [hR]; decide⟩ (Nat.le_of_ble_eq_true rfl) ?_
    refine v_aload_n (pc := 4) (show decode (tC tMp_requireRoomInLine) 4 = .ok (.aload_n 0, 1) by decide +kernel) 0 rfl rfl ?_
    obtain ⟨v6, e7, h⟩ := ob h
    refine v_getX (pc := 5) oF_Mp_10 e7 (show decode (tC tMp_requireRoomInLine) 5 = .ok (.getfield 10, 3) by decide +kernel) ?_
    obtain ⟨_, e9, h⟩ := ob h
    obtain ⟨r10, S11, e8, h⟩ := ob2 h
    refine v_call (pc := 8) (v := (some (.int r10))) (y := yLi_inLine) (θ' := tLi_inLine) (rm := rLi_inLine) (av := [.ref v6]) (st := []) (cLi_inLine (l := gl Γ) hl e8) kLi_inLine iLi_inLine (iv_virt (y := yLi_inLine) (θ' := tLi_inLine) (kd := 8) (As := []) rfl (ckd_of e9) kLi_inLine (gT_in 614 (by decide +kernel) rfl) nLi_inLine lLi_inLine mLi_inLine rfl (show decode (tC tMp_requireRoomInLine) 8 = .ok (.invokevirtual 316, 3) by decide +kernel)) ⟨by rw [hR]; decide, by rw [hR]; decide, by rw [hR]; decide, by rw [hR]; decide⟩ (Nat.le_of_ble_eq_true rfl) ?_
    refine v_bipush (pc := 11) (v := 40) (show decode (tC tMp_requireRoomInLine) 11 = .ok (.bipush 40, 2) by decide +kernel) (by decide) ?_
    refine v_icmp_lt (pc := 13) 27 (show decode (tC tMp_requireRoomInLine) 13 = .ok (.if_icmp .lt 14, 3) by decide +kernel) (by decide) (fun c => ?_) (fun c => ?_)
    · replace h := ite_t c h
      obtain rfl := Option.some.inj h
      refine v_wide (ce2 := 0) (sl2 := 0) (by decide) (by decide) ?_
      exact v_vret (pc := 27) rfl (show decode (tC tMp_requireRoomInLine) 27 = .ok (.return_, 1) by decide +kernel)
    · replace h := ite_f c h
      obtain rfl := Option.some.inj h
      exact v_throw0 (pc := 16) (k := 2) (pc2 := 23) (own := "MatchPipe") (tx := "40 are in line") rfl ex_2 rfl (strs_in 16 rfl) (show decode (tC tMp_requireRoomInLine) 16 = .ok (.new 326, 3) by decide +kernel) (show decode (tC tMp_requireRoomInLine) 19 = .ok (.dup, 1) by decide +kernel) (Or.inr ⟨(show decode (tC tMp_requireRoomInLine) 20 = .ok (.ldc_w 335, 3) by decide +kernel), rfl⟩) (show decode (tC tMp_requireRoomInLine) 23 = .ok (.invokespecial 330, 3) by decide +kernel) (show decode (tC tMp_requireRoomInLine) 26 = .ok (.athrow, 1) by decide +kernel) (by rw [hR]; decide) (by rw [hR]; decide) (by rw [hR]; decide) (by rw [hR]; decide)
  · subst h
    exact v_callT (pc := 1) (mc := 1) (ms := 6) hk (y := yMp_requireLaid) (θ' := tMp_requireLaid) (rm := rMp_requireLaid) (av := [.ref x0]) (st := []) (cMp_requireLaid (l := gl Γ) hl e1) kMp_requireLaid iMp_requireLaid (iv_virt (y := yMp_requireLaid) (θ' := tMp_requireLaid) (kd := 0) (As := []) rfl (ckd_of e2) kMp_requireLaid (gT_in 978 (by decide +kernel) rfl) nMp_requireLaid lMp_requireLaid mMp_requireLaid rfl (show decode (tC tMp_requireRoomInLine) 1 = .ok (.invokevirtual 270, 3) by decide +kernel)) ⟨by rw [hR]; decide, by rw [hR]; decide, by rw [hR]; decide, by rw [hR]; decide⟩ (Nat.le_of_ble_eq_true rfl) rfl
theorem cMp_requireRoomInLine {l : Launch} (hl : l.flags = pinnedFlags ++ [noTraceFlag]) {D : va_G} {dA : Nat → ClassId} {B : Nat} {x0 : Nat} {S : Sx} {X : Nat × Int32 × Sx} (h : fMp_requireRoomInLine x0 S = some X) : Mx l yMp_requireRoomInLine tMp_requireRoomInLine rMp_requireRoomInLine (if X.1 = 0 then 0 else 1) (if X.1 = 0 then 0 else 6) D dA B S [.ref x0] X.1 none X.2.2 :=
  mx_of hl (by decide) rfl rfl (Nat.le_of_ble_eq_true rfl) (fun Γ e1 e2 e3 e4 e5 => by subst e1; subst e3; subst e4; subst e5; exact wMp_requireRoomInLine e2 hl x0 S h)
/-! MatchPipe.packet()I -/
def yMp_packet : MethodName := ⟨"MatchPipe", "packet", "()I"⟩
def tMp_packet : tM := (prog_1_method_17_code, "MatchPipe", 2, "packet", some .int, [])
def rMp_packet : Room := { frames := 8, cells := 1, slots := 6, locals := 150 }
theorem kMp_packet : cOf yMp_packet tMp_packet ∈ gT := gT_in 973 (by decide +kernel) rfl
theorem iMp_packet : Cond.initialized yMp_packet.cls ∈ gT := gT_in 55 (by decide +kernel) rfl
theorem mMp_packet : okM yMp_packet 0 := ⟨by decide, by decide, by unfold nPar; decide +kernel⟩
theorem nMp_packet : Cond.instanceMethod yMp_packet ∈ gT := gT_in 971 (by decide +kernel) rfl
theorem lMp_packet : Cond.selects "MatchPipe" yMp_packet yMp_packet ∈ gT := gT_in 972 (by decide +kernel) rfl
def fMp_packet (x0 : Nat) (S : Sx) : Option (Nat × Int32 × Sx) :=
    (ckd S x0 0).bind fun _ =>
    bdT (fMp_requireRoomInLine x0 S) fun r4 S5 =>
    (gX S5 0 0 x0).bind fun v6 =>
    (ckd S5 v6 8).bind fun _ =>
    bd2 (fLi_nextPlace v6 S5) fun r10 S11 =>
    r10.bind fun a12 =>
    (ckd S11 a12 9).bind fun _ =>
    (fOp_begin a12 0 (-1) S11).bind fun S16 =>
    (gX S16 9 1 a12).bind fun v17 =>
    (gX S16 0 5 x0).bind fun v19 =>
    (ckd S16 v17 10).bind fun _ =>
    (fBi_copy v17 v19 S16).bind fun S23 =>
    (gI S23 0 6 x0).bind fun v24 =>
    (pI S23 9 2 a12 v24).bind fun S26 =>
    (pI S26 0 6 x0 0).bind fun S28 =>
    (gX S28 0 0 x0).bind fun v30 =>
    (gI S28 8 6 v30).bind fun v32 =>
    (pI S28 8 6 v30 (v32 + 1)).bind fun S34 =>
    some (0, v32, S34)
set_option maxRecDepth 100000 in
set_option maxHeartbeats 4000000 in
theorem wMp_packet {Γ : vG} (hR : gR Γ = rMp_packet) (hl : (gl Γ).flags = pinnedFlags ++ [noTraceFlag]) (x0 : Nat) (S : Sx) {X : Nat × Int32 × Sx} (h : fMp_packet x0 S = some X) : vV Γ tMp_packet (mQ Γ (if X.1 = 0 then 0 else 1) (if X.1 = 0 then 0 else 6) X.1 (some (.int X.2.1)) X.2.2) S 0 0 0 [(0, .ref x0)] [] := by
  unfold fMp_packet at h
  refine v_aload_n (pc := 0) (show decode (tC tMp_packet) 0 = .ok (.aload_n 0, 1) by decide +kernel) 0 rfl rfl ?_
  obtain ⟨_, e2, h⟩ := ob h
  obtain ⟨k3, r4, S5, e1, ⟨hk, h⟩ | ⟨hk, h⟩⟩ := obT h
  · subst hk
    refine v_callR (pc := 1) (mc := 1) (ms := 6) (v := none) (y := yMp_requireRoomInLine) (θ' := tMp_requireRoomInLine) (rm := rMp_requireRoomInLine) (av := [.ref x0]) (st := []) (cMp_requireRoomInLine (l := gl Γ) hl e1) kMp_requireRoomInLine iMp_requireRoomInLine (iv_virt (y := yMp_requireRoomInLine) (θ' := tMp_requireRoomInLine) (kd := 0) (As := []) rfl (ckd_of e2) kMp_requireRoomInLine (gT_in 974 (by decide +kernel) rfl) nMp_requireRoomInLine lMp_requireRoomInLine mMp_requireRoomInLine rfl (show decode (tC tMp_packet) 1 = .ok (.invokevirtual 238, 3) by decide +kernel)) ⟨by rw [hR]; decide, by rw [hR]; decide, by rw [hR]; decide, by rw [hR]; decide⟩ (Nat.le_of_ble_eq_true rfl) ?_
    refine v_aload_n (pc := 4) (show decode (tC tMp_packet) 4 = .ok (.aload_n 0, 1) by decide +kernel) 0 rfl rfl ?_
    obtain ⟨v6, e7, h⟩ := ob h
    refine v_getX (pc := 5) oF_Mp_10 e7 (show decode (tC tMp_packet) 5 = .ok (.getfield 10, 3) by decide +kernel) ?_
    obtain ⟨_, e9, h⟩ := ob h
    obtain ⟨r10, S11, e8, h⟩ := ob2 h
    have h9 := ob h
    clear h
    obtain ⟨a12, e13, h⟩ := h9
    subst e13
    refine v_call (pc := 8) (v := (some (.ref a12))) (y := yLi_nextPlace) (θ' := tLi_nextPlace) (rm := rLi_nextPlace) (av := [.ref v6]) (st := []) (cLi_nextPlace (l := gl Γ) hl e8) kLi_nextPlace iLi_nextPlace (iv_virt (y := yLi_nextPlace) (θ' := tLi_nextPlace) (kd := 8) (As := []) rfl (ckd_of e9) kLi_nextPlace (gT_in 984 (by decide +kernel) rfl) nLi_nextPlace lLi_nextPlace mLi_nextPlace rfl (show decode (tC tMp_packet) 8 = .ok (.invokevirtual 241, 3) by decide +kernel)) ⟨by rw [hR]; decide, by rw [hR]; decide, by rw [hR]; decide, by rw [hR]; decide⟩ (Nat.le_of_ble_eq_true rfl) ?_
    refine v_astore_n (pc := 11) [(1, .ref a12), (0, .ref x0)] (show decode (tC tMp_packet) 11 = .ok (.astore_n 1, 1) by decide +kernel) rfl (by decide) rfl ?_
    refine v_aload_n (pc := 12) (show decode (tC tMp_packet) 12 = .ok (.aload_n 1, 1) by decide +kernel) 0 rfl rfl ?_
    refine v_iconst (pc := 13) (v := 0) (show decode (tC tMp_packet) 13 = .ok (.iconst 0, 1) by decide +kernel) (by decide) ?_
    refine v_iconst (pc := 14) (v := (-1)) (show decode (tC tMp_packet) 14 = .ok (.iconst (-1), 1) by decide +kernel) (by decide) ?_
    obtain ⟨_, e15, h⟩ := ob h
    obtain ⟨S16, e14, h⟩ := ob h
    refine v_call (pc := 15) (v := none) (y := yOp_begin) (θ' := tOp_begin) (rm := rOp_begin) (av := [.ref a12, .int 0, .int (-1)]) (st := []) (cOp_begin (l := gl Γ) hl e14) kOp_begin iOp_begin (iv_virt (y := yOp_begin) (θ' := tOp_begin) (kd := 9) (As := [.int 0, .int (-1)]) rfl (ckd_of e15) kOp_begin (gT_in 989 (by decide +kernel) rfl) nOp_begin lOp_begin mOp_begin rfl (show decode (tC tMp_packet) 15 = .ok (.invokevirtual 245, 3) by decide +kernel)) ⟨by rw [hR]; decide, by rw [hR]; decide, by rw [hR]; decide, by rw [hR]; decide⟩ (Nat.le_of_ble_eq_true rfl) ?_
    refine v_aload_n (pc := 18) (show decode (tC tMp_packet) 18 = .ok (.aload_n 1, 1) by decide +kernel) 0 rfl rfl ?_
    obtain ⟨v17, e18, h⟩ := ob h
    refine v_getX (pc := 19) oF_Mp_248 e18 (show decode (tC tMp_packet) 19 = .ok (.getfield 248, 3) by decide +kernel) ?_
    refine v_aload_n (pc := 22) (show decode (tC tMp_packet) 22 = .ok (.aload_n 0, 1) by decide +kernel) 1 rfl rfl ?_
    obtain ⟨v19, e20, h⟩ := ob h
    refine v_getX (pc := 23) oF_Mp_40 e20 (show decode (tC tMp_packet) 23 = .ok (.getfield 40, 3) by decide +kernel) ?_
    obtain ⟨_, e22, h⟩ := ob h
    obtain ⟨S23, e21, h⟩ := ob h
    refine v_call (pc := 26) (v := none) (y := yBi_copy) (θ' := tBi_copy) (rm := rBi_copy) (av := [.ref v17, .ref v19]) (st := []) (cBi_copy (l := gl Γ) hl e21) kBi_copy iBi_copy (iv_virt (y := yBi_copy) (θ' := tBi_copy) (kd := 10) (As := [.ref v19]) rfl (ckd_of e22) kBi_copy (gT_in 993 (by decide +kernel) rfl) nBi_copy lBi_copy mBi_copy rfl (show decode (tC tMp_packet) 26 = .ok (.invokevirtual 251, 3) by decide +kernel)) ⟨by rw [hR]; decide, by rw [hR]; decide, by rw [hR]; decide, by rw [hR]; decide⟩ (Nat.le_of_ble_eq_true rfl) ?_
    refine v_aload_n (pc := 29) (show decode (tC tMp_packet) 29 = .ok (.aload_n 1, 1) by decide +kernel) 0 rfl rfl ?_
    refine v_aload_n (pc := 30) (show decode (tC tMp_packet) 30 = .ok (.aload_n 0, 1) by decide +kernel) 1 rfl rfl ?_
    obtain ⟨v24, e25, h⟩ := ob h
    refine v_getI (pc := 31) oF_Mp_59 (by decide) e25 (show decode (tC tMp_packet) 31 = .ok (.getfield 59, 3) by decide +kernel) ?_
    obtain ⟨S26, e27, h⟩ := ob h
    refine v_putI (pc := 34) oF_Mp_255 (fin_ok (kd := 9) (k := 2) (by decide +kernel)) e27 (show decode (tC tMp_packet) 34 = .ok (.putfield 255, 3) by decide +kernel) ?_
    refine v_aload_n (pc := 37) (show decode (tC tMp_packet) 37 = .ok (.aload_n 0, 1) by decide +kernel) 1 rfl rfl ?_
    refine v_iconst (pc := 38) (v := 0) (show decode (tC tMp_packet) 38 = .ok (.iconst 0, 1) by decide +kernel) (by decide) ?_
    obtain ⟨S28, e29, h⟩ := ob h
    refine v_putI (pc := 39) oF_Mp_59 (fin_ok (kd := 0) (k := 6) (by decide +kernel)) e29 (show decode (tC tMp_packet) 39 = .ok (.putfield 59, 3) by decide +kernel) ?_
    refine v_aload_n (pc := 42) (show decode (tC tMp_packet) 42 = .ok (.aload_n 0, 1) by decide +kernel) 1 rfl rfl ?_
    obtain ⟨v30, e31, h⟩ := ob h
    refine v_getX (pc := 43) oF_Mp_10 e31 (show decode (tC tMp_packet) 43 = .ok (.getfield 10, 3) by decide +kernel) ?_
    refine v_dup (pc := 46) (show decode (tC tMp_packet) 46 = .ok (.dup, 1) by decide +kernel) rfl ?_
    obtain ⟨v32, e33, h⟩ := ob h
    refine v_getI (pc := 47) oF_Mp_258 (by decide) e33 (show decode (tC tMp_packet) 47 = .ok (.getfield 258, 3) by decide +kernel) ?_
    refine v_dup_x1 (pc := 50) (show decode (tC tMp_packet) 50 = .ok (.dup_x1, 1) by decide +kernel) rfl rfl ?_
    refine v_iconst (pc := 51) (v := 1) (show decode (tC tMp_packet) 51 = .ok (.iconst 1, 1) by decide +kernel) (by decide) ?_
    refine v_iadd (pc := 52) (show decode (tC tMp_packet) 52 = .ok (.iadd, 1) by decide +kernel) ?_
    obtain ⟨S34, e35, h⟩ := ob h
    refine v_putI (pc := 53) oF_Mp_258 (fin_ok (kd := 8) (k := 6) (by decide +kernel)) e35 (show decode (tC tMp_packet) 53 = .ok (.putfield 258, 3) by decide +kernel) ?_
    obtain rfl := Option.some.inj h
    refine v_wide (ce2 := 0) (sl2 := 0) (by decide) (by decide) ?_
    exact v_iret (pc := 56) rfl (show decode (tC tMp_packet) 56 = .ok (.ireturn, 1) by decide +kernel)
  · subst h
    exact v_callT (pc := 1) (mc := 1) (ms := 6) hk (y := yMp_requireRoomInLine) (θ' := tMp_requireRoomInLine) (rm := rMp_requireRoomInLine) (av := [.ref x0]) (st := []) (cMp_requireRoomInLine (l := gl Γ) hl e1) kMp_requireRoomInLine iMp_requireRoomInLine (iv_virt (y := yMp_requireRoomInLine) (θ' := tMp_requireRoomInLine) (kd := 0) (As := []) rfl (ckd_of e2) kMp_requireRoomInLine (gT_in 974 (by decide +kernel) rfl) nMp_requireRoomInLine lMp_requireRoomInLine mMp_requireRoomInLine rfl (show decode (tC tMp_packet) 1 = .ok (.invokevirtual 238, 3) by decide +kernel)) ⟨by rw [hR]; decide, by rw [hR]; decide, by rw [hR]; decide, by rw [hR]; decide⟩ (Nat.le_of_ble_eq_true rfl) rfl
theorem cMp_packet {l : Launch} (hl : l.flags = pinnedFlags ++ [noTraceFlag]) {D : va_G} {dA : Nat → ClassId} {B : Nat} {x0 : Nat} {S : Sx} {X : Nat × Int32 × Sx} (h : fMp_packet x0 S = some X) : Mx l yMp_packet tMp_packet rMp_packet (if X.1 = 0 then 0 else 1) (if X.1 = 0 then 0 else 6) D dA B S [.ref x0] X.1 (some (.int X.2.1)) X.2.2 :=
  mx_of hl (by decide) rfl rfl (Nat.le_of_ble_eq_true rfl) (fun Γ e1 e2 e3 e4 e5 => by subst e1; subst e3; subst e4; subst e5; exact wMp_packet e2 hl x0 S h)
/-! MatchPipe.insert(IIIII)I -/
def yMp_insert : MethodName := ⟨"MatchPipe", "insert", "(IIIII)I"⟩
def tMp_insert : tM := (prog_1_method_19_code, "MatchPipe", 7, "insert", some .int, [])
def rMp_insert : Room := { frames := 8, cells := 1, slots := 6, locals := 150 }
theorem kMp_insert : cOf yMp_insert tMp_insert ∈ gT := gT_in 1006 (by decide +kernel) rfl
theorem iMp_insert : Cond.initialized yMp_insert.cls ∈ gT := gT_in 55 (by decide +kernel) rfl
theorem mMp_insert : okM yMp_insert 5 := ⟨by decide, by decide, by unfold nPar; decide +kernel⟩
theorem nMp_insert : Cond.instanceMethod yMp_insert ∈ gT := gT_in 1004 (by decide +kernel) rfl
theorem lMp_insert : Cond.selects "MatchPipe" yMp_insert yMp_insert ∈ gT := gT_in 1005 (by decide +kernel) rfl
def fMp_insert (x0 : Nat) (x1 : Int32) (x2 : Int32) (x3 : Int32) (x4 : Int32) (x5 : Int32) (S : Sx) : Option (Nat × Int32 × Sx) :=
    (ckd S x0 0).bind fun _ =>
    bdT (fMp_requireTable x0 x1 S) fun r4 S5 =>
    (ckd S5 x0 0).bind fun _ =>
    bdT (fMp_requireRoomInLine x0 S5) fun r9 S10 =>
    (gX S10 0 0 x0).bind fun v11 =>
    (ckd S10 v11 8).bind fun _ =>
    bd2 (fLi_nextPlace v11 S10) fun r15 S16 =>
    r15.bind fun a17 =>
    (ckd S16 a17 9).bind fun _ =>
    (fOp_begin a17 1 x1 S16).bind fun S21 =>
    (gX S21 9 0 a17).bind fun v22 =>
    (gX S21 0 3 x0).bind fun v24 =>
    (ckd S21 v22 5).bind fun _ =>
    (fEn_copy v22 v24 S21).bind fun S28 =>
    (gX S28 9 0 a17).bind fun v29 =>
    (ckd S28 v29 5).bind fun _ =>
    (fEn_setContent v29 x2 x3 x4 x5 S28).bind fun S33 =>
    (gX S33 0 0 x0).bind fun v34 =>
    (gI S33 8 6 v34).bind fun v36 =>
    (pI S33 8 6 v34 (v36 + 1)).bind fun S38 =>
    some (0, v36, S38)
set_option maxRecDepth 100000 in
set_option maxHeartbeats 4000000 in
theorem wMp_insert {Γ : vG} (hR : gR Γ = rMp_insert) (hl : (gl Γ).flags = pinnedFlags ++ [noTraceFlag]) (x0 : Nat) (x1 : Int32) (x2 : Int32) (x3 : Int32) (x4 : Int32) (x5 : Int32) (S : Sx) {X : Nat × Int32 × Sx} (h : fMp_insert x0 x1 x2 x3 x4 x5 S = some X) : vV Γ tMp_insert (mQ Γ (if X.1 = 0 then 0 else 1) (if X.1 = 0 then 0 else 6) X.1 (some (.int X.2.1)) X.2.2) S 0 0 0 [(0, .ref x0), (1, .int x1), (2, .int x2), (3, .int x3), (4, .int x4), (5, .int x5)] [] := by
  unfold fMp_insert at h
  refine v_aload_n (pc := 0) (show decode (tC tMp_insert) 0 = .ok (.aload_n 0, 1) by decide +kernel) 0 rfl rfl ?_
  refine v_iload_n (pc := 1) (show decode (tC tMp_insert) 1 = .ok (.iload_n 1, 1) by decide +kernel) 1 rfl rfl ?_
  obtain ⟨_, e2, h⟩ := ob h
  obtain ⟨k3, r4, S5, e1, ⟨hk, h⟩ | ⟨hk, h⟩⟩ := obT h
  · subst hk
    refine v_callR (pc := 2) (mc := 1) (ms := 6) (v := none) (y := yMp_requireTable) (θ' := tMp_requireTable) (rm := rMp_requireTable) (av := [.ref x0, .int x1]) (st := []) (cMp_requireTable (l := gl Γ) hl e1) kMp_requireTable iMp_requireTable (iv_virt (y := yMp_requireTable) (θ' := tMp_requireTable) (kd := 0) (As := [.int x1]) rfl (ckd_of e2) kMp_requireTable (gT_in 858 (by decide +kernel) rfl) nMp_requireTable lMp_requireTable mMp_requireTable rfl (show decode (tC tMp_insert) 2 = .ok (.invokevirtual 186, 3) by decide +kernel)) ⟨by rw [hR]; decide, by rw [hR]; decide, by rw [hR]; decide, by rw [hR]; decide⟩ (Nat.le_of_ble_eq_true rfl) ?_
    refine v_aload_n (pc := 5) (show decode (tC tMp_insert) 5 = .ok (.aload_n 0, 1) by decide +kernel) 0 rfl rfl ?_
    obtain ⟨_, e7, h⟩ := ob h
    obtain ⟨k8, r9, S10, e6, ⟨hk, h⟩ | ⟨hk, h⟩⟩ := obT h
    · subst hk
      refine v_callR (pc := 6) (mc := 1) (ms := 6) (v := none) (y := yMp_requireRoomInLine) (θ' := tMp_requireRoomInLine) (rm := rMp_requireRoomInLine) (av := [.ref x0]) (st := []) (cMp_requireRoomInLine (l := gl Γ) hl e6) kMp_requireRoomInLine iMp_requireRoomInLine (iv_virt (y := yMp_requireRoomInLine) (θ' := tMp_requireRoomInLine) (kd := 0) (As := []) rfl (ckd_of e7) kMp_requireRoomInLine (gT_in 974 (by decide +kernel) rfl) nMp_requireRoomInLine lMp_requireRoomInLine mMp_requireRoomInLine rfl (show decode (tC tMp_insert) 6 = .ok (.invokevirtual 238, 3) by decide +kernel)) ⟨by rw [hR]; decide, by rw [hR]; decide, by rw [hR]; decide, by rw [hR]; decide⟩ (Nat.le_of_ble_eq_true rfl) ?_
      refine v_aload_n (pc := 9) (show decode (tC tMp_insert) 9 = .ok (.aload_n 0, 1) by decide +kernel) 0 rfl rfl ?_
      obtain ⟨v11, e12, h⟩ := ob h
      refine v_getX (pc := 10) oF_Mp_10 e12 (show decode (tC tMp_insert) 10 = .ok (.getfield 10, 3) by decide +kernel) ?_
      obtain ⟨_, e14, h⟩ := ob h
      obtain ⟨r15, S16, e13, h⟩ := ob2 h
      have h9 := ob h
      clear h
      obtain ⟨a17, e18, h⟩ := h9
      subst e18
      refine v_call (pc := 13) (v := (some (.ref a17))) (y := yLi_nextPlace) (θ' := tLi_nextPlace) (rm := rLi_nextPlace) (av := [.ref v11]) (st := []) (cLi_nextPlace (l := gl Γ) hl e13) kLi_nextPlace iLi_nextPlace (iv_virt (y := yLi_nextPlace) (θ' := tLi_nextPlace) (kd := 8) (As := []) rfl (ckd_of e14) kLi_nextPlace (gT_in 984 (by decide +kernel) rfl) nLi_nextPlace lLi_nextPlace mLi_nextPlace rfl (show decode (tC tMp_insert) 13 = .ok (.invokevirtual 241, 3) by decide +kernel)) ⟨by rw [hR]; decide, by rw [hR]; decide, by rw [hR]; decide, by rw [hR]; decide⟩ (Nat.le_of_ble_eq_true rfl) ?_
      refine v_astore (pc := 16) [(6, .ref a17), (0, .ref x0), (1, .int x1), (2, .int x2), (3, .int x3), (4, .int x4), (5, .int x5)] (show decode (tC tMp_insert) 16 = .ok (.astore 6, 2) by decide +kernel) (by decide) rfl ?_
      refine v_aload (pc := 18) (show decode (tC tMp_insert) 18 = .ok (.aload 6, 2) by decide +kernel) 0 rfl ?_
      refine v_iconst (pc := 20) (v := 1) (show decode (tC tMp_insert) 20 = .ok (.iconst 1, 1) by decide +kernel) (by decide) ?_
      refine v_iload_n (pc := 21) (show decode (tC tMp_insert) 21 = .ok (.iload_n 1, 1) by decide +kernel) 2 rfl rfl ?_
      obtain ⟨_, e20, h⟩ := ob h
      obtain ⟨S21, e19, h⟩ := ob h
      refine v_call (pc := 22) (v := none) (y := yOp_begin) (θ' := tOp_begin) (rm := rOp_begin) (av := [.ref a17, .int 1, .int x1]) (st := []) (cOp_begin (l := gl Γ) hl e19) kOp_begin iOp_begin (iv_virt (y := yOp_begin) (θ' := tOp_begin) (kd := 9) (As := [.int 1, .int x1]) rfl (ckd_of e20) kOp_begin (gT_in 989 (by decide +kernel) rfl) nOp_begin lOp_begin mOp_begin rfl (show decode (tC tMp_insert) 22 = .ok (.invokevirtual 245, 3) by decide +kernel)) ⟨by rw [hR]; decide, by rw [hR]; decide, by rw [hR]; decide, by rw [hR]; decide⟩ (Nat.le_of_ble_eq_true rfl) ?_
      refine v_aload (pc := 25) (show decode (tC tMp_insert) 25 = .ok (.aload 6, 2) by decide +kernel) 0 rfl ?_
      obtain ⟨v22, e23, h⟩ := ob h
      refine v_getX (pc := 27) oF_Mp_261 e23 (show decode (tC tMp_insert) 27 = .ok (.getfield 261, 3) by decide +kernel) ?_
      refine v_aload_n (pc := 30) (show decode (tC tMp_insert) 30 = .ok (.aload_n 0, 1) by decide +kernel) 1 rfl rfl ?_
      obtain ⟨v24, e25, h⟩ := ob h
      refine v_getX (pc := 31) oF_Mp_29 e25 (show decode (tC tMp_insert) 31 = .ok (.getfield 29, 3) by decide +kernel) ?_
      obtain ⟨_, e27, h⟩ := ob h
      obtain ⟨S28, e26, h⟩ := ob h
      refine v_call (pc := 34) (v := none) (y := yEn_copy) (θ' := tEn_copy) (rm := rEn_copy) (av := [.ref v22, .ref v24]) (st := []) (cEn_copy (l := gl Γ) hl e26) kEn_copy iEn_copy (iv_virt (y := yEn_copy) (θ' := tEn_copy) (kd := 5) (As := [.ref v24]) rfl (ckd_of e27) kEn_copy (gT_in 1007 (by decide +kernel) rfl) nEn_copy lEn_copy mEn_copy rfl (show decode (tC tMp_insert) 34 = .ok (.invokevirtual 264, 3) by decide +kernel)) ⟨by rw [hR]; decide, by rw [hR]; decide, by rw [hR]; decide, by rw [hR]; decide⟩ (Nat.le_of_ble_eq_true rfl) ?_
      refine v_aload (pc := 37) (show decode (tC tMp_insert) 37 = .ok (.aload 6, 2) by decide +kernel) 0 rfl ?_
      obtain ⟨v29, e30, h⟩ := ob h
      refine v_getX (pc := 39) oF_Mp_261 e30 (show decode (tC tMp_insert) 39 = .ok (.getfield 261, 3) by decide +kernel) ?_
      refine v_iload_n (pc := 42) (show decode (tC tMp_insert) 42 = .ok (.iload_n 2, 1) by decide +kernel) 3 rfl rfl ?_
      refine v_iload_n (pc := 43) (show decode (tC tMp_insert) 43 = .ok (.iload_n 3, 1) by decide +kernel) 4 rfl rfl ?_
      refine v_iload (pc := 44) (show decode (tC tMp_insert) 44 = .ok (.iload 4, 2) by decide +kernel) 5 rfl ?_
      refine v_iload (pc := 46) (show decode (tC tMp_insert) 46 = .ok (.iload 5, 2) by decide +kernel) 6 rfl ?_
      obtain ⟨_, e32, h⟩ := ob h
      obtain ⟨S33, e31, h⟩ := ob h
      refine v_call (pc := 48) (v := none) (y := yEn_setContent) (θ' := tEn_setContent) (rm := rEn_setContent) (av := [.ref v29, .int x2, .int x3, .int x4, .int x5]) (st := []) (cEn_setContent (l := gl Γ) hl e31) kEn_setContent iEn_setContent (iv_virt (y := yEn_setContent) (θ' := tEn_setContent) (kd := 5) (As := [.int x2, .int x3, .int x4, .int x5]) rfl (ckd_of e32) kEn_setContent (gT_in 1016 (by decide +kernel) rfl) nEn_setContent lEn_setContent mEn_setContent rfl (show decode (tC tMp_insert) 48 = .ok (.invokevirtual 267, 3) by decide +kernel)) ⟨by rw [hR]; decide, by rw [hR]; decide, by rw [hR]; decide, by rw [hR]; decide⟩ (Nat.le_of_ble_eq_true rfl) ?_
      refine v_aload_n (pc := 51) (show decode (tC tMp_insert) 51 = .ok (.aload_n 0, 1) by decide +kernel) 1 rfl rfl ?_
      obtain ⟨v34, e35, h⟩ := ob h
      refine v_getX (pc := 52) oF_Mp_10 e35 (show decode (tC tMp_insert) 52 = .ok (.getfield 10, 3) by decide +kernel) ?_
      refine v_dup (pc := 55) (show decode (tC tMp_insert) 55 = .ok (.dup, 1) by decide +kernel) rfl ?_
      obtain ⟨v36, e37, h⟩ := ob h
      refine v_getI (pc := 56) oF_Mp_258 (by decide) e37 (show decode (tC tMp_insert) 56 = .ok (.getfield 258, 3) by decide +kernel) ?_
      refine v_dup_x1 (pc := 59) (show decode (tC tMp_insert) 59 = .ok (.dup_x1, 1) by decide +kernel) rfl rfl ?_
      refine v_iconst (pc := 60) (v := 1) (show decode (tC tMp_insert) 60 = .ok (.iconst 1, 1) by decide +kernel) (by decide) ?_
      refine v_iadd (pc := 61) (show decode (tC tMp_insert) 61 = .ok (.iadd, 1) by decide +kernel) ?_
      obtain ⟨S38, e39, h⟩ := ob h
      refine v_putI (pc := 62) oF_Mp_258 (fin_ok (kd := 8) (k := 6) (by decide +kernel)) e39 (show decode (tC tMp_insert) 62 = .ok (.putfield 258, 3) by decide +kernel) ?_
      obtain rfl := Option.some.inj h
      refine v_wide (ce2 := 0) (sl2 := 0) (by decide) (by decide) ?_
      exact v_iret (pc := 65) rfl (show decode (tC tMp_insert) 65 = .ok (.ireturn, 1) by decide +kernel)
    · subst h
      exact v_callT (pc := 6) (mc := 1) (ms := 6) hk (y := yMp_requireRoomInLine) (θ' := tMp_requireRoomInLine) (rm := rMp_requireRoomInLine) (av := [.ref x0]) (st := []) (cMp_requireRoomInLine (l := gl Γ) hl e6) kMp_requireRoomInLine iMp_requireRoomInLine (iv_virt (y := yMp_requireRoomInLine) (θ' := tMp_requireRoomInLine) (kd := 0) (As := []) rfl (ckd_of e7) kMp_requireRoomInLine (gT_in 974 (by decide +kernel) rfl) nMp_requireRoomInLine lMp_requireRoomInLine mMp_requireRoomInLine rfl (show decode (tC tMp_insert) 6 = .ok (.invokevirtual 238, 3) by decide +kernel)) ⟨by rw [hR]; decide, by rw [hR]; decide, by rw [hR]; decide, by rw [hR]; decide⟩ (Nat.le_of_ble_eq_true rfl) rfl
  · subst h
    exact v_callT (pc := 2) (mc := 1) (ms := 6) hk (y := yMp_requireTable) (θ' := tMp_requireTable) (rm := rMp_requireTable) (av := [.ref x0, .int x1]) (st := []) (cMp_requireTable (l := gl Γ) hl e1) kMp_requireTable iMp_requireTable (iv_virt (y := yMp_requireTable) (θ' := tMp_requireTable) (kd := 0) (As := [.int x1]) rfl (ckd_of e2) kMp_requireTable (gT_in 858 (by decide +kernel) rfl) nMp_requireTable lMp_requireTable mMp_requireTable rfl (show decode (tC tMp_insert) 2 = .ok (.invokevirtual 186, 3) by decide +kernel)) ⟨by rw [hR]; decide, by rw [hR]; decide, by rw [hR]; decide, by rw [hR]; decide⟩ (Nat.le_of_ble_eq_true rfl) rfl
theorem cMp_insert {l : Launch} (hl : l.flags = pinnedFlags ++ [noTraceFlag]) {D : va_G} {dA : Nat → ClassId} {B : Nat} {x0 : Nat} {x1 : Int32} {x2 : Int32} {x3 : Int32} {x4 : Int32} {x5 : Int32} {S : Sx} {X : Nat × Int32 × Sx} (h : fMp_insert x0 x1 x2 x3 x4 x5 S = some X) : Mx l yMp_insert tMp_insert rMp_insert (if X.1 = 0 then 0 else 1) (if X.1 = 0 then 0 else 6) D dA B S [.ref x0, .int x1, .int x2, .int x3, .int x4, .int x5] X.1 (some (.int X.2.1)) X.2.2 :=
  mx_of hl (by decide) rfl rfl (Nat.le_of_ble_eq_true rfl) (fun Γ e1 e2 e3 e4 e5 => by subst e1; subst e3; subst e4; subst e5; exact wMp_insert e2 hl x0 x1 x2 x3 x4 x5 S h)
/-! MatchPipe.remove(I)I -/
def yMp_remove : MethodName := ⟨"MatchPipe", "remove", "(I)I"⟩
def tMp_remove : tM := (prog_1_method_20_code, "MatchPipe", 3, "remove", some .int, [])
def rMp_remove : Room := { frames := 8, cells := 1, slots := 6, locals := 150 }
theorem kMp_remove : cOf yMp_remove tMp_remove ∈ gT := gT_in 1023 (by decide +kernel) rfl
theorem iMp_remove : Cond.initialized yMp_remove.cls ∈ gT := gT_in 55 (by decide +kernel) rfl
theorem mMp_remove : okM yMp_remove 1 := ⟨by decide, by decide, by unfold nPar; decide +kernel⟩
theorem nMp_remove : Cond.instanceMethod yMp_remove ∈ gT := gT_in 1021 (by decide +kernel) rfl
theorem lMp_remove : Cond.selects "MatchPipe" yMp_remove yMp_remove ∈ gT := gT_in 1022 (by decide +kernel) rfl
def fMp_remove (x0 : Nat) (x1 : Int32) (S : Sx) : Option (Nat × Int32 × Sx) :=
    (ckd S x0 0).bind fun _ =>
    bdT (fMp_requireTable x0 x1 S) fun r4 S5 =>
    (ckd S5 x0 0).bind fun _ =>
    bdT (fMp_requireRoomInLine x0 S5) fun r9 S10 =>
    (gX S10 0 0 x0).bind fun v11 =>
    (ckd S10 v11 8).bind fun _ =>
    bd2 (fLi_nextPlace v11 S10) fun r15 S16 =>
    r15.bind fun a17 =>
    (ckd S16 a17 9).bind fun _ =>
    (fOp_begin a17 2 x1 S16).bind fun S21 =>
    (gX S21 9 0 a17).bind fun v22 =>
    (gX S21 0 3 x0).bind fun v24 =>
    (ckd S21 v22 5).bind fun _ =>
    (fEn_copy v22 v24 S21).bind fun S28 =>
    (gX S28 0 0 x0).bind fun v29 =>
    (gI S28 8 6 v29).bind fun v31 =>
    (pI S28 8 6 v29 (v31 + 1)).bind fun S33 =>
    some (0, v31, S33)
set_option maxRecDepth 100000 in
set_option maxHeartbeats 4000000 in
theorem wMp_remove {Γ : vG} (hR : gR Γ = rMp_remove) (hl : (gl Γ).flags = pinnedFlags ++ [noTraceFlag]) (x0 : Nat) (x1 : Int32) (S : Sx) {X : Nat × Int32 × Sx} (h : fMp_remove x0 x1 S = some X) : vV Γ tMp_remove (mQ Γ (if X.1 = 0 then 0 else 1) (if X.1 = 0 then 0 else 6) X.1 (some (.int X.2.1)) X.2.2) S 0 0 0 [(0, .ref x0), (1, .int x1)] [] := by
  unfold fMp_remove at h
  refine v_aload_n (pc := 0) (show decode (tC tMp_remove) 0 = .ok (.aload_n 0, 1) by decide +kernel) 0 rfl rfl ?_
  refine v_iload_n (pc := 1) (show decode (tC tMp_remove) 1 = .ok (.iload_n 1, 1) by decide +kernel) 1 rfl rfl ?_
  obtain ⟨_, e2, h⟩ := ob h
  obtain ⟨k3, r4, S5, e1, ⟨hk, h⟩ | ⟨hk, h⟩⟩ := obT h
  · subst hk
    refine v_callR (pc := 2) (mc := 1) (ms := 6) (v := none) (y := yMp_requireTable) (θ' := tMp_requireTable) (rm := rMp_requireTable) (av := [.ref x0, .int x1]) (st := []) (cMp_requireTable (l := gl Γ) hl e1) kMp_requireTable iMp_requireTable (iv_virt (y := yMp_requireTable) (θ' := tMp_requireTable) (kd := 0) (As := [.int x1]) rfl (ckd_of e2) kMp_requireTable (gT_in 858 (by decide +kernel) rfl) nMp_requireTable lMp_requireTable mMp_requireTable rfl (show decode (tC tMp_remove) 2 = .ok (.invokevirtual 186, 3) by decide +kernel)) ⟨by rw [hR]; decide, by rw [hR]; decide, by rw [hR]; decide, by rw [hR]; decide⟩ (Nat.le_of_ble_eq_true rfl) ?_
    refine v_aload_n (pc := 5) (show decode (tC tMp_remove) 5 = .ok (.aload_n 0, 1) by decide +kernel) 0 rfl rfl ?_
    obtain ⟨_, e7, h⟩ := ob h
    obtain ⟨k8, r9, S10, e6, ⟨hk, h⟩ | ⟨hk, h⟩⟩ := obT h
    · subst hk
      refine v_callR (pc := 6) (mc := 1) (ms := 6) (v := none) (y := yMp_requireRoomInLine) (θ' := tMp_requireRoomInLine) (rm := rMp_requireRoomInLine) (av := [.ref x0]) (st := []) (cMp_requireRoomInLine (l := gl Γ) hl e6) kMp_requireRoomInLine iMp_requireRoomInLine (iv_virt (y := yMp_requireRoomInLine) (θ' := tMp_requireRoomInLine) (kd := 0) (As := []) rfl (ckd_of e7) kMp_requireRoomInLine (gT_in 974 (by decide +kernel) rfl) nMp_requireRoomInLine lMp_requireRoomInLine mMp_requireRoomInLine rfl (show decode (tC tMp_remove) 6 = .ok (.invokevirtual 238, 3) by decide +kernel)) ⟨by rw [hR]; decide, by rw [hR]; decide, by rw [hR]; decide, by rw [hR]; decide⟩ (Nat.le_of_ble_eq_true rfl) ?_
      refine v_aload_n (pc := 9) (show decode (tC tMp_remove) 9 = .ok (.aload_n 0, 1) by decide +kernel) 0 rfl rfl ?_
      obtain ⟨v11, e12, h⟩ := ob h
      refine v_getX (pc := 10) oF_Mp_10 e12 (show decode (tC tMp_remove) 10 = .ok (.getfield 10, 3) by decide +kernel) ?_
      obtain ⟨_, e14, h⟩ := ob h
      obtain ⟨r15, S16, e13, h⟩ := ob2 h
      have h9 := ob h
      clear h
      obtain ⟨a17, e18, h⟩ := h9
      subst e18
      refine v_call (pc := 13) (v := (some (.ref a17))) (y := yLi_nextPlace) (θ' := tLi_nextPlace) (rm := rLi_nextPlace) (av := [.ref v11]) (st := []) (cLi_nextPlace (l := gl Γ) hl e13) kLi_nextPlace iLi_nextPlace (iv_virt (y := yLi_nextPlace) (θ' := tLi_nextPlace) (kd := 8) (As := []) rfl (ckd_of e14) kLi_nextPlace (gT_in 984 (by decide +kernel) rfl) nLi_nextPlace lLi_nextPlace mLi_nextPlace rfl (show decode (tC tMp_remove) 13 = .ok (.invokevirtual 241, 3) by decide +kernel)) ⟨by rw [hR]; decide, by rw [hR]; decide, by rw [hR]; decide, by rw [hR]; decide⟩ (Nat.le_of_ble_eq_true rfl) ?_
      refine v_astore_n (pc := 16) [(2, .ref a17), (0, .ref x0), (1, .int x1)] (show decode (tC tMp_remove) 16 = .ok (.astore_n 2, 1) by decide +kernel) rfl (by decide) rfl ?_
      refine v_aload_n (pc := 17) (show decode (tC tMp_remove) 17 = .ok (.aload_n 2, 1) by decide +kernel) 0 rfl rfl ?_
      refine v_iconst (pc := 18) (v := 2) (show decode (tC tMp_remove) 18 = .ok (.iconst 2, 1) by decide +kernel) (by decide) ?_
      refine v_iload_n (pc := 19) (show decode (tC tMp_remove) 19 = .ok (.iload_n 1, 1) by decide +kernel) 2 rfl rfl ?_
      obtain ⟨_, e20, h⟩ := ob h
      obtain ⟨S21, e19, h⟩ := ob h
      refine v_call (pc := 20) (v := none) (y := yOp_begin) (θ' := tOp_begin) (rm := rOp_begin) (av := [.ref a17, .int 2, .int x1]) (st := []) (cOp_begin (l := gl Γ) hl e19) kOp_begin iOp_begin (iv_virt (y := yOp_begin) (θ' := tOp_begin) (kd := 9) (As := [.int 2, .int x1]) rfl (ckd_of e20) kOp_begin (gT_in 989 (by decide +kernel) rfl) nOp_begin lOp_begin mOp_begin rfl (show decode (tC tMp_remove) 20 = .ok (.invokevirtual 245, 3) by decide +kernel)) ⟨by rw [hR]; decide, by rw [hR]; decide, by rw [hR]; decide, by rw [hR]; decide⟩ (Nat.le_of_ble_eq_true rfl) ?_
      refine v_aload_n (pc := 23) (show decode (tC tMp_remove) 23 = .ok (.aload_n 2, 1) by decide +kernel) 0 rfl rfl ?_
      obtain ⟨v22, e23, h⟩ := ob h
      refine v_getX (pc := 24) oF_Mp_261 e23 (show decode (tC tMp_remove) 24 = .ok (.getfield 261, 3) by decide +kernel) ?_
      refine v_aload_n (pc := 27) (show decode (tC tMp_remove) 27 = .ok (.aload_n 0, 1) by decide +kernel) 1 rfl rfl ?_
      obtain ⟨v24, e25, h⟩ := ob h
      refine v_getX (pc := 28) oF_Mp_29 e25 (show decode (tC tMp_remove) 28 = .ok (.getfield 29, 3) by decide +kernel) ?_
      obtain ⟨_, e27, h⟩ := ob h
      obtain ⟨S28, e26, h⟩ := ob h
      refine v_call (pc := 31) (v := none) (y := yEn_copy) (θ' := tEn_copy) (rm := rEn_copy) (av := [.ref v22, .ref v24]) (st := []) (cEn_copy (l := gl Γ) hl e26) kEn_copy iEn_copy (iv_virt (y := yEn_copy) (θ' := tEn_copy) (kd := 5) (As := [.ref v24]) rfl (ckd_of e27) kEn_copy (gT_in 1007 (by decide +kernel) rfl) nEn_copy lEn_copy mEn_copy rfl (show decode (tC tMp_remove) 31 = .ok (.invokevirtual 264, 3) by decide +kernel)) ⟨by rw [hR]; decide, by rw [hR]; decide, by rw [hR]; decide, by rw [hR]; decide⟩ (Nat.le_of_ble_eq_true rfl) ?_
      refine v_aload_n (pc := 34) (show decode (tC tMp_remove) 34 = .ok (.aload_n 0, 1) by decide +kernel) 1 rfl rfl ?_
      obtain ⟨v29, e30, h⟩ := ob h
      refine v_getX (pc := 35) oF_Mp_10 e30 (show decode (tC tMp_remove) 35 = .ok (.getfield 10, 3) by decide +kernel) ?_
      refine v_dup (pc := 38) (show decode (tC tMp_remove) 38 = .ok (.dup, 1) by decide +kernel) rfl ?_
      obtain ⟨v31, e32, h⟩ := ob h
      refine v_getI (pc := 39) oF_Mp_258 (by decide) e32 (show decode (tC tMp_remove) 39 = .ok (.getfield 258, 3) by decide +kernel) ?_
      refine v_dup_x1 (pc := 42) (show decode (tC tMp_remove) 42 = .ok (.dup_x1, 1) by decide +kernel) rfl rfl ?_
      refine v_iconst (pc := 43) (v := 1) (show decode (tC tMp_remove) 43 = .ok (.iconst 1, 1) by decide +kernel) (by decide) ?_
      refine v_iadd (pc := 44) (show decode (tC tMp_remove) 44 = .ok (.iadd, 1) by decide +kernel) ?_
      obtain ⟨S33, e34, h⟩ := ob h
      refine v_putI (pc := 45) oF_Mp_258 (fin_ok (kd := 8) (k := 6) (by decide +kernel)) e34 (show decode (tC tMp_remove) 45 = .ok (.putfield 258, 3) by decide +kernel) ?_
      obtain rfl := Option.some.inj h
      refine v_wide (ce2 := 0) (sl2 := 0) (by decide) (by decide) ?_
      exact v_iret (pc := 48) rfl (show decode (tC tMp_remove) 48 = .ok (.ireturn, 1) by decide +kernel)
    · subst h
      exact v_callT (pc := 6) (mc := 1) (ms := 6) hk (y := yMp_requireRoomInLine) (θ' := tMp_requireRoomInLine) (rm := rMp_requireRoomInLine) (av := [.ref x0]) (st := []) (cMp_requireRoomInLine (l := gl Γ) hl e6) kMp_requireRoomInLine iMp_requireRoomInLine (iv_virt (y := yMp_requireRoomInLine) (θ' := tMp_requireRoomInLine) (kd := 0) (As := []) rfl (ckd_of e7) kMp_requireRoomInLine (gT_in 974 (by decide +kernel) rfl) nMp_requireRoomInLine lMp_requireRoomInLine mMp_requireRoomInLine rfl (show decode (tC tMp_remove) 6 = .ok (.invokevirtual 238, 3) by decide +kernel)) ⟨by rw [hR]; decide, by rw [hR]; decide, by rw [hR]; decide, by rw [hR]; decide⟩ (Nat.le_of_ble_eq_true rfl) rfl
  · subst h
    exact v_callT (pc := 2) (mc := 1) (ms := 6) hk (y := yMp_requireTable) (θ' := tMp_requireTable) (rm := rMp_requireTable) (av := [.ref x0, .int x1]) (st := []) (cMp_requireTable (l := gl Γ) hl e1) kMp_requireTable iMp_requireTable (iv_virt (y := yMp_requireTable) (θ' := tMp_requireTable) (kd := 0) (As := [.int x1]) rfl (ckd_of e2) kMp_requireTable (gT_in 858 (by decide +kernel) rfl) nMp_requireTable lMp_requireTable mMp_requireTable rfl (show decode (tC tMp_remove) 2 = .ok (.invokevirtual 186, 3) by decide +kernel)) ⟨by rw [hR]; decide, by rw [hR]; decide, by rw [hR]; decide, by rw [hR]; decide⟩ (Nat.le_of_ble_eq_true rfl) rfl
theorem cMp_remove {l : Launch} (hl : l.flags = pinnedFlags ++ [noTraceFlag]) {D : va_G} {dA : Nat → ClassId} {B : Nat} {x0 : Nat} {x1 : Int32} {S : Sx} {X : Nat × Int32 × Sx} (h : fMp_remove x0 x1 S = some X) : Mx l yMp_remove tMp_remove rMp_remove (if X.1 = 0 then 0 else 1) (if X.1 = 0 then 0 else 6) D dA B S [.ref x0, .int x1] X.1 (some (.int X.2.1)) X.2.2 :=
  mx_of hl (by decide) rfl rfl (Nat.le_of_ble_eq_true rfl) (fun Γ e1 e2 e3 e4 e5 => by subst e1; subst e3; subst e4; subst e5; exact wMp_remove e2 hl x0 x1 S h)
/-! MatchPipe.run(I)I -/
def yMp_run : MethodName := ⟨"MatchPipe", "run", "(I)I"⟩
def tMp_run : tM := (prog_1_method_21_code, "MatchPipe", 4, "run", some .int, [])
def rMp_run : Room := { frames := 7, cells := 1, slots := 6, locals := 162 }
theorem kMp_run : cOf yMp_run tMp_run ∈ gT := gT_in 1030 (by decide +kernel) rfl
theorem iMp_run : Cond.initialized yMp_run.cls ∈ gT := gT_in 55 (by decide +kernel) rfl
theorem mMp_run : okM yMp_run 1 := ⟨by decide, by decide, by unfold nPar; decide +kernel⟩
theorem nMp_run : Cond.instanceMethod yMp_run ∈ gT := gT_in 1028 (by decide +kernel) rfl
theorem lMp_run : Cond.selects "MatchPipe" yMp_run yMp_run ∈ gT := gT_in 1029 (by decide +kernel) rfl
def fMp_run_14   (S : Sx) : Option (Nat × Int32 × Sx) :=
    some (1, 0, nx S)
set_option maxRecDepth 100000 in
set_option maxHeartbeats 4000000 in
theorem wMp_run_14 {Γ : vG} (hR : gR Γ = rMp_run) (hl : (gl Γ).flags = pinnedFlags ++ [noTraceFlag]) {X : Nat × Int32 × Sx}  : ∀  (S : Sx), fMp_run_14   S = some X → vV Γ tMp_run (mQ Γ (if X.1 = 0 then 0 else 1) (if X.1 = 0 then 0 else 6) X.1 (some (.int X.2.1)) X.2.2) S 0 0 14 [] [] := by
  intro  S h
  unfold fMp_run_14 at h
  obtain rfl := Option.some.inj h
  exact v_throw0 (pc := 14) (k := 1) (pc2 := 21) (own := "MatchPipe") (tx := "0 to 100 cycles are run") rfl ex_1 rfl (strs_in 17 rfl) (show decode (tC tMp_run) 14 = .ok (.new 63, 3) by decide +kernel) (show decode (tC tMp_run) 17 = .ok (.dup, 1) by decide +kernel) (Or.inr ⟨(show decode (tC tMp_run) 18 = .ok (.ldc_w 273, 3) by decide +kernel), rfl⟩) (show decode (tC tMp_run) 21 = .ok (.invokespecial 67, 3) by decide +kernel) (show decode (tC tMp_run) 24 = .ok (.athrow, 1) by decide +kernel) (by rw [hR]; decide) (by rw [hR]; decide) (by rw [hR]; decide) (by rw [hR]; decide)
def fMp_run_35  : Nat → Nat → Int32 → Int32 → Int32 → Sx → Option (Nat × Int32 × Sx)
  | 0, _, _, _, _, _ => none
  | n + 1, x0, x1, x2, x3, S =>
    if x1 ≤ x3 then
    ((gX S 0 0 x0).bind fun v1 =>
    (gI S 8 8 v1).bind fun v3 =>
    some (0, v3 - x2, S))
    else
    ((gX S 0 0 x0).bind fun v5 =>
    (ckd S v5 8).bind fun _ =>
    (fLi_goOn v5 S).bind fun S9 =>
    fMp_run_35 n x0 x1 x2 (x3 + 1) S9)
set_option maxRecDepth 100000 in
set_option maxHeartbeats 4000000 in
theorem wMp_run_35 {Γ : vG} (hR : gR Γ = rMp_run) (hl : (gl Γ).flags = pinnedFlags ++ [noTraceFlag]) {X : Nat × Int32 × Sx}  : ∀ (n : Nat) (x0 : Nat) (x1 : Int32) (x2 : Int32) (x3 : Int32) (S : Sx), fMp_run_35  n x0 x1 x2 x3 S = some X → vV Γ tMp_run (mQ Γ (if X.1 = 0 then 0 else 1) (if X.1 = 0 then 0 else 6) X.1 (some (.int X.2.1)) X.2.2) S 0 0 35 [(0, .ref x0), (1, .int x1), (2, .int x2), (3, .int x3)] [] := by
  intro n
  induction n with
  | zero => intro x0 x1 x2 x3 S h; rw [fMp_run_35] at h; cases h
  | succ n ih =>
    intro x0 x1 x2 x3 S h
    rw [fMp_run_35] at h
    refine v_iload_n (pc := 35) (show decode (tC tMp_run) 35 = .ok (.iload_n 3, 1) by decide +kernel) 3 rfl rfl ?_
    refine v_iload_n (pc := 36) (show decode (tC tMp_run) 36 = .ok (.iload_n 1, 1) by decide +kernel) 1 rfl rfl ?_
    refine v_icmp_ge (pc := 37) 53 (show decode (tC tMp_run) 37 = .ok (.if_icmp .ge 16, 3) by decide +kernel) (by decide) (fun c => ?_) (fun c => ?_)
    · replace h := ite_t c h
      refine v_aload_n (pc := 53) (show decode (tC tMp_run) 53 = .ok (.aload_n 0, 1) by decide +kernel) 0 rfl rfl ?_
      obtain ⟨v1, e2, h⟩ := ob h
      refine v_getX (pc := 54) oF_Mp_10 e2 (show decode (tC tMp_run) 54 = .ok (.getfield 10, 3) by decide +kernel) ?_
      obtain ⟨v3, e4, h⟩ := ob h
      refine v_getI (pc := 57) oF_Mp_275 (by decide) e4 (show decode (tC tMp_run) 57 = .ok (.getfield 275, 3) by decide +kernel) ?_
      refine v_iload_n (pc := 60) (show decode (tC tMp_run) 60 = .ok (.iload_n 2, 1) by decide +kernel) 2 rfl rfl ?_
      refine v_isub (pc := 61) (show decode (tC tMp_run) 61 = .ok (.isub, 1) by decide +kernel) ?_
      obtain rfl := Option.some.inj h
      refine v_wide (ce2 := 0) (sl2 := 0) (by decide) (by decide) ?_
      exact v_iret (pc := 62) rfl (show decode (tC tMp_run) 62 = .ok (.ireturn, 1) by decide +kernel)
    · replace h := ite_f c h
      refine v_aload_n (pc := 40) (show decode (tC tMp_run) 40 = .ok (.aload_n 0, 1) by decide +kernel) 0 rfl rfl ?_
      obtain ⟨v5, e6, h⟩ := ob h
      refine v_getX (pc := 41) oF_Mp_10 e6 (show decode (tC tMp_run) 41 = .ok (.getfield 10, 3) by decide +kernel) ?_
      obtain ⟨_, e8, h⟩ := ob h
      obtain ⟨S9, e7, h⟩ := ob h
      refine v_call (pc := 44) (v := none) (y := yLi_goOn) (θ' := tLi_goOn) (rm := rLi_goOn) (av := [.ref v5]) (st := []) (cLi_goOn (l := gl Γ) hl e7) kLi_goOn iLi_goOn (iv_virt (y := yLi_goOn) (θ' := tLi_goOn) (kd := 8) (As := []) rfl (ckd_of e8) kLi_goOn (gT_in 1032 (by decide +kernel) rfl) nLi_goOn lLi_goOn mLi_goOn rfl (show decode (tC tMp_run) 44 = .ok (.invokevirtual 278, 3) by decide +kernel)) ⟨by rw [hR]; decide, by rw [hR]; decide, by rw [hR]; decide, by rw [hR]; decide⟩ (Nat.le_of_ble_eq_true rfl) ?_
      refine v_iinc (pc := 47) (j := 3) [(3, .int (x3 + 1)), (0, .ref x0), (1, .int x1), (2, .int x2)] (show decode (tC tMp_run) 47 = .ok (.iinc 3 1, 3) by decide +kernel) rfl rfl (by decide) rfl ?_
      refine v_goto (pc := 50) 35 (show decode (tC tMp_run) 50 = .ok (.goto (-15), 3) by decide +kernel) (by decide) ?_
      refine v_sub [(0, .ref x0), (1, .int x1), (2, .int x2), (3, .int (x3 + 1))] [1, 2, 3, 0] rfl ?_
      exact ih x0 x1 x2 (x3 + 1) S9 h
def fMp_run (x0 : Nat) (x1 : Int32) (S : Sx) : Option (Nat × Int32 × Sx) :=
    (ckd S x0 0).bind fun _ =>
    bdT (fMp_requireLaid x0 S) fun r4 S5 =>
    if x1 < 0 then
    (fMp_run_14  S5)
    else
    (if x1 ≤ 100 then
    ((gX S5 0 0 x0).bind fun v6 =>
    (gI S5 8 8 v6).bind fun v8 =>
    fMp_run_35  fuel x0 x1 v8 0 S5)
    else
    (fMp_run_14  S5))
set_option maxRecDepth 100000 in
set_option maxHeartbeats 4000000 in
theorem wMp_run {Γ : vG} (hR : gR Γ = rMp_run) (hl : (gl Γ).flags = pinnedFlags ++ [noTraceFlag]) (x0 : Nat) (x1 : Int32) (S : Sx) {X : Nat × Int32 × Sx} (h : fMp_run x0 x1 S = some X) : vV Γ tMp_run (mQ Γ (if X.1 = 0 then 0 else 1) (if X.1 = 0 then 0 else 6) X.1 (some (.int X.2.1)) X.2.2) S 0 0 0 [(0, .ref x0), (1, .int x1)] [] := by
  unfold fMp_run at h
  refine v_aload_n (pc := 0) (show decode (tC tMp_run) 0 = .ok (.aload_n 0, 1) by decide +kernel) 0 rfl rfl ?_
  obtain ⟨_, e2, h⟩ := ob h
  obtain ⟨k3, r4, S5, e1, ⟨hk, h⟩ | ⟨hk, h⟩⟩ := obT h
  · subst hk
    refine v_callR (pc := 1) (mc := 1) (ms := 6) (v := none) (y := yMp_requireLaid) (θ' := tMp_requireLaid) (rm := rMp_requireLaid) (av := [.ref x0]) (st := []) (cMp_requireLaid (l := gl Γ) hl e1) kMp_requireLaid iMp_requireLaid (iv_virt (y := yMp_requireLaid) (θ' := tMp_requireLaid) (kd := 0) (As := []) rfl (ckd_of e2) kMp_requireLaid (gT_in 978 (by decide +kernel) rfl) nMp_requireLaid lMp_requireLaid mMp_requireLaid rfl (show decode (tC tMp_run) 1 = .ok (.invokevirtual 270, 3) by decide +kernel)) ⟨by rw [hR]; decide, by rw [hR]; decide, by rw [hR]; decide, by rw [hR]; decide⟩ (Nat.le_of_ble_eq_true rfl) ?_
    refine v_iload_n (pc := 4) (show decode (tC tMp_run) 4 = .ok (.iload_n 1, 1) by decide +kernel) 1 rfl rfl ?_
    refine v_if_lt (pc := 5) 14 (show decode (tC tMp_run) 5 = .ok (.ifCond .lt 9, 3) by decide +kernel) (by decide) (fun c => ?_) (fun c => ?_)
    · replace h := ite_t c h
      refine v_sub [] [] rfl ?_
      exact wMp_run_14 hR hl  S5 h
    · replace h := ite_f c h
      refine v_iload_n (pc := 8) (show decode (tC tMp_run) 8 = .ok (.iload_n 1, 1) by decide +kernel) 1 rfl rfl ?_
      refine v_bipush (pc := 9) (v := 100) (show decode (tC tMp_run) 9 = .ok (.bipush 100, 2) by decide +kernel) (by decide) ?_
      refine v_icmp_le (pc := 11) 25 (show decode (tC tMp_run) 11 = .ok (.if_icmp .le 14, 3) by decide +kernel) (by decide) (fun c => ?_) (fun c => ?_)
      · replace h := ite_t c h
        refine v_aload_n (pc := 25) (show decode (tC tMp_run) 25 = .ok (.aload_n 0, 1) by decide +kernel) 0 rfl rfl ?_
        obtain ⟨v6, e7, h⟩ := ob h
        refine v_getX (pc := 26) oF_Mp_10 e7 (show decode (tC tMp_run) 26 = .ok (.getfield 10, 3) by decide +kernel) ?_
        obtain ⟨v8, e9, h⟩ := ob h
        refine v_getI (pc := 29) oF_Mp_275 (by decide) e9 (show decode (tC tMp_run) 29 = .ok (.getfield 275, 3) by decide +kernel) ?_
        refine v_istore_n (pc := 32) [(2, .int v8), (0, .ref x0), (1, .int x1)] (show decode (tC tMp_run) 32 = .ok (.istore_n 2, 1) by decide +kernel) rfl (by decide) rfl ?_
        refine v_iconst (pc := 33) (v := 0) (show decode (tC tMp_run) 33 = .ok (.iconst 0, 1) by decide +kernel) (by decide) ?_
        refine v_istore_n (pc := 34) [(3, .int 0), (2, .int v8), (0, .ref x0), (1, .int x1)] (show decode (tC tMp_run) 34 = .ok (.istore_n 3, 1) by decide +kernel) rfl (by decide) rfl ?_
        refine v_sub [(0, .ref x0), (1, .int x1), (2, .int v8), (3, .int 0)] [2, 3, 1, 0] rfl ?_
        exact wMp_run_35 hR hl  fuel x0 x1 v8 0 S5 h
      · replace h := ite_f c h
        refine v_sub [] [] rfl ?_
        exact wMp_run_14 hR hl  S5 h
  · subst h
    exact v_callT (pc := 1) (mc := 1) (ms := 6) hk (y := yMp_requireLaid) (θ' := tMp_requireLaid) (rm := rMp_requireLaid) (av := [.ref x0]) (st := []) (cMp_requireLaid (l := gl Γ) hl e1) kMp_requireLaid iMp_requireLaid (iv_virt (y := yMp_requireLaid) (θ' := tMp_requireLaid) (kd := 0) (As := []) rfl (ckd_of e2) kMp_requireLaid (gT_in 978 (by decide +kernel) rfl) nMp_requireLaid lMp_requireLaid mMp_requireLaid rfl (show decode (tC tMp_run) 1 = .ok (.invokevirtual 270, 3) by decide +kernel)) ⟨by rw [hR]; decide, by rw [hR]; decide, by rw [hR]; decide, by rw [hR]; decide⟩ (Nat.le_of_ble_eq_true rfl) rfl
theorem cMp_run {l : Launch} (hl : l.flags = pinnedFlags ++ [noTraceFlag]) {D : va_G} {dA : Nat → ClassId} {B : Nat} {x0 : Nat} {x1 : Int32} {S : Sx} {X : Nat × Int32 × Sx} (h : fMp_run x0 x1 S = some X) : Mx l yMp_run tMp_run rMp_run (if X.1 = 0 then 0 else 1) (if X.1 = 0 then 0 else 6) D dA B S [.ref x0, .int x1] X.1 (some (.int X.2.1)) X.2.2 :=
  mx_of hl (by decide) rfl rfl (Nat.le_of_ble_eq_true rfl) (fun Γ e1 e2 e3 e4 e5 => by subst e1; subst e3; subst e4; subst e5; exact wMp_run e2 hl x0 x1 S h)
/-! MatchPipe.refuseIfUnderWay()V -/
def yMp_refuseIfUnderWay : MethodName := ⟨"MatchPipe", "refuseIfUnderWay", "()V"⟩
def tMp_refuseIfUnderWay : tM := (prog_1_method_31_code, "MatchPipe", 1, "refuseIfUnderWay", none, [])
def rMp_refuseIfUnderWay : Room := { frames := 6, cells := 1, slots := 6, locals := 110 }
theorem kMp_refuseIfUnderWay : cOf yMp_refuseIfUnderWay tMp_refuseIfUnderWay ∈ gT := gT_in 1164 (by decide +kernel) rfl
theorem iMp_refuseIfUnderWay : Cond.initialized yMp_refuseIfUnderWay.cls ∈ gT := gT_in 55 (by decide +kernel) rfl
theorem mMp_refuseIfUnderWay : okM yMp_refuseIfUnderWay 0 := ⟨by decide, by decide, by unfold nPar; decide +kernel⟩
theorem nMp_refuseIfUnderWay : Cond.instanceMethod yMp_refuseIfUnderWay ∈ gT := gT_in 1163 (by decide +kernel) rfl
theorem lMp_refuseIfUnderWay : Cond.selects "MatchPipe" yMp_refuseIfUnderWay yMp_refuseIfUnderWay ∈ gT := gT_in 23 (by decide +kernel) rfl
def fMp_refuseIfUnderWay (x0 : Nat) (S : Sx) : Option (Nat × Int32 × Sx) :=
    (gX S 0 0 x0).bind fun v1 =>
    (ckd S v1 8).bind fun _ =>
    bd2 (fLi_inStages v1 S) fun r5 S6 =>
    if r5 ≤ 0 then
    (some (0, 0, S6))
    else
    (some (2, 0, nx S6))
set_option maxRecDepth 100000 in
set_option maxHeartbeats 4000000 in
theorem wMp_refuseIfUnderWay {Γ : vG} (hR : gR Γ = rMp_refuseIfUnderWay) (hl : (gl Γ).flags = pinnedFlags ++ [noTraceFlag]) (x0 : Nat) (S : Sx) {X : Nat × Int32 × Sx} (h : fMp_refuseIfUnderWay x0 S = some X) : vV Γ tMp_refuseIfUnderWay (mQ Γ (if X.1 = 0 then 0 else 1) (if X.1 = 0 then 0 else 6) X.1 none X.2.2) S 0 0 0 [(0, .ref x0)] [] := by
  unfold fMp_refuseIfUnderWay at h
  refine v_aload_n (pc := 0) (show decode (tC tMp_refuseIfUnderWay) 0 = .ok (.aload_n 0, 1) by decide +kernel) 0 rfl rfl ?_
  obtain ⟨v1, e2, h⟩ := ob h
  refine v_getX (pc := 1) oF_Mp_10 e2 (show decode (tC tMp_refuseIfUnderWay) 1 = .ok (.getfield 10, 3) by decide +kernel) ?_
  obtain ⟨_, e4, h⟩ := ob h
  obtain ⟨r5, S6, e3, h⟩ := ob2 h
  refine v_call (pc := 4) (v := (some (.int r5))) (y := yLi_inStages) (θ' := tLi_inStages) (rm := rLi_inStages) (av := [.ref v1]) (st := []) (cLi_inStages (l := gl Γ) hl e3) kLi_inStages iLi_inStages (iv_virt (y := yLi_inStages) (θ' := tLi_inStages) (kd := 8) (As := []) rfl (ckd_of e4) kLi_inStages (gT_in 618 (by decide +kernel) rfl) nLi_inStages lLi_inStages mLi_inStages rfl (show decode (tC tMp_refuseIfUnderWay) 4 = .ok (.invokevirtual 320, 3) by decide +kernel)) ⟨by rw [hR]; decide, by rw [hR]; decide, by rw [hR]; decide, by rw [hR]; decide⟩ (Nat.le_of_ble_eq_true rfl) ?_
  refine v_if_le (pc := 7) 21 (show decode (tC tMp_refuseIfUnderWay) 7 = .ok (.ifCond .le 14, 3) by decide +kernel) (by decide) (fun c => ?_) (fun c => ?_)
  · replace h := ite_t c h
    obtain rfl := Option.some.inj h
    refine v_wide (ce2 := 0) (sl2 := 0) (by decide) (by decide) ?_
    exact v_vret (pc := 21) rfl (show decode (tC tMp_refuseIfUnderWay) 21 = .ok (.return_, 1) by decide +kernel)
  · replace h := ite_f c h
    obtain rfl := Option.some.inj h
    exact v_throw0 (pc := 10) (k := 2) (pc2 := 17) (own := "MatchPipe") (tx := "an operation is in a stage") rfl ex_2 rfl (strs_in 18 rfl) (show decode (tC tMp_refuseIfUnderWay) 10 = .ok (.new 326, 3) by decide +kernel) (show decode (tC tMp_refuseIfUnderWay) 13 = .ok (.dup, 1) by decide +kernel) (Or.inr ⟨(show decode (tC tMp_refuseIfUnderWay) 14 = .ok (.ldc_w 337, 3) by decide +kernel), rfl⟩) (show decode (tC tMp_refuseIfUnderWay) 17 = .ok (.invokespecial 330, 3) by decide +kernel) (show decode (tC tMp_refuseIfUnderWay) 20 = .ok (.athrow, 1) by decide +kernel) (by rw [hR]; decide) (by rw [hR]; decide) (by rw [hR]; decide) (by rw [hR]; decide)
theorem cMp_refuseIfUnderWay {l : Launch} (hl : l.flags = pinnedFlags ++ [noTraceFlag]) {D : va_G} {dA : Nat → ClassId} {B : Nat} {x0 : Nat} {S : Sx} {X : Nat × Int32 × Sx} (h : fMp_refuseIfUnderWay x0 S = some X) : Mx l yMp_refuseIfUnderWay tMp_refuseIfUnderWay rMp_refuseIfUnderWay (if X.1 = 0 then 0 else 1) (if X.1 = 0 then 0 else 6) D dA B S [.ref x0] X.1 none X.2.2 :=
  mx_of hl (by decide) rfl rfl (Nat.le_of_ble_eq_true rfl) (fun Γ e1 e2 e3 e4 e5 => by subst e1; subst e3; subst e4; subst e5; exact wMp_refuseIfUnderWay e2 hl x0 S h)
/-! MatchPipe.word(II)I -/
def yMp_word : MethodName := ⟨"MatchPipe", "word", "(II)I"⟩
def tMp_word : tM := (prog_1_method_24_code, "MatchPipe", 3, "word", some .int, [])
def rMp_word : Room := { frames := 7, cells := 1, slots := 6, locals := 130 }
theorem kMp_word : cOf yMp_word tMp_word ∈ gT := gT_in 1160 (by decide +kernel) rfl
theorem iMp_word : Cond.initialized yMp_word.cls ∈ gT := gT_in 55 (by decide +kernel) rfl
theorem mMp_word : okM yMp_word 2 := ⟨by decide, by decide, by unfold nPar; decide +kernel⟩
theorem nMp_word : Cond.instanceMethod yMp_word ∈ gT := gT_in 1158 (by decide +kernel) rfl
theorem lMp_word : Cond.selects "MatchPipe" yMp_word yMp_word ∈ gT := gT_in 1159 (by decide +kernel) rfl
def fMp_word (x0 : Nat) (x1 : Int32) (x2 : Int32) (S : Sx) : Option (Nat × Int32 × Sx) :=
    (ckd S x0 0).bind fun _ =>
    bdT (fMp_refuseIfUnderWay x0 S) fun r4 S5 =>
    if x1 < 0 then
    (some (0, 0, S5))
    else
    (if (4 : Int32) ≤ x1 then
    (some (0, 0, S5))
    else
    (if x2 < 0 then
    (some (0, 0, S5))
    else
    (if x2 < 16 then
    ((gX S5 0 0 x0).bind fun v6 =>
    (gX S5 8 5 v6).bind fun v8 =>
    (aI S5 v8 ((x1 * 16) + x2)).bind fun v10 =>
    some (0, v10, S5))
    else
    (some (0, 0, S5)))))
set_option maxRecDepth 100000 in
set_option maxHeartbeats 4000000 in
theorem wMp_word {Γ : vG} (hR : gR Γ = rMp_word) (hl : (gl Γ).flags = pinnedFlags ++ [noTraceFlag]) (x0 : Nat) (x1 : Int32) (x2 : Int32) (S : Sx) {X : Nat × Int32 × Sx} (h : fMp_word x0 x1 x2 S = some X) : vV Γ tMp_word (mQ Γ (if X.1 = 0 then 0 else 1) (if X.1 = 0 then 0 else 6) X.1 (some (.int X.2.1)) X.2.2) S 0 0 0 [(0, .ref x0), (1, .int x1), (2, .int x2)] [] := by
  unfold fMp_word at h
  refine v_aload_n (pc := 0) (show decode (tC tMp_word) 0 = .ok (.aload_n 0, 1) by decide +kernel) 0 rfl rfl ?_
  obtain ⟨_, e2, h⟩ := ob h
  obtain ⟨k3, r4, S5, e1, ⟨hk, h⟩ | ⟨hk, h⟩⟩ := obT h
  · subst hk
    refine v_callR (pc := 1) (mc := 1) (ms := 6) (v := none) (y := yMp_refuseIfUnderWay) (θ' := tMp_refuseIfUnderWay) (rm := rMp_refuseIfUnderWay) (av := [.ref x0]) (st := []) (cMp_refuseIfUnderWay (l := gl Γ) hl e1) kMp_refuseIfUnderWay iMp_refuseIfUnderWay (iv_virt (y := yMp_refuseIfUnderWay) (θ' := tMp_refuseIfUnderWay) (kd := 0) (As := []) rfl (ckd_of e2) kMp_refuseIfUnderWay (gT_in 1161 (by decide +kernel) rfl) nMp_refuseIfUnderWay lMp_refuseIfUnderWay mMp_refuseIfUnderWay rfl (show decode (tC tMp_word) 1 = .ok (.invokevirtual 304, 3) by decide +kernel)) ⟨by rw [hR]; decide, by rw [hR]; decide, by rw [hR]; decide, by rw [hR]; decide⟩ (Nat.le_of_ble_eq_true rfl) ?_
    refine v_iload_n (pc := 4) (show decode (tC tMp_word) 4 = .ok (.iload_n 1, 1) by decide +kernel) 1 rfl rfl ?_
    refine v_if_lt (pc := 5) 23 (show decode (tC tMp_word) 5 = .ok (.ifCond .lt 18, 3) by decide +kernel) (by decide) (fun c => ?_) (fun c => ?_)
    · replace h := ite_t c h
      refine v_iconst (pc := 23) (v := 0) (show decode (tC tMp_word) 23 = .ok (.iconst 0, 1) by decide +kernel) (by decide) ?_
      obtain rfl := Option.some.inj h
      refine v_wide (ce2 := 0) (sl2 := 0) (by decide) (by decide) ?_
      exact v_iret (pc := 24) rfl (show decode (tC tMp_word) 24 = .ok (.ireturn, 1) by decide +kernel)
    · replace h := ite_f c h
      refine v_iload_n (pc := 8) (show decode (tC tMp_word) 8 = .ok (.iload_n 1, 1) by decide +kernel) 1 rfl rfl ?_
      refine v_iconst (pc := 9) (v := 4) (show decode (tC tMp_word) 9 = .ok (.iconst 4, 1) by decide +kernel) (by decide) ?_
      refine v_icmp_ge (pc := 10) 23 (show decode (tC tMp_word) 10 = .ok (.if_icmp .ge 13, 3) by decide +kernel) (by decide) (fun c => ?_) (fun c => ?_)
      · replace h := ite_t c h
        refine v_iconst (pc := 23) (v := 0) (show decode (tC tMp_word) 23 = .ok (.iconst 0, 1) by decide +kernel) (by decide) ?_
        obtain rfl := Option.some.inj h
        refine v_wide (ce2 := 0) (sl2 := 0) (by decide) (by decide) ?_
        exact v_iret (pc := 24) rfl (show decode (tC tMp_word) 24 = .ok (.ireturn, 1) by decide +kernel)
      · replace h := ite_f c h
        refine v_iload_n (pc := 13) (show decode (tC tMp_word) 13 = .ok (.iload_n 2, 1) by decide +kernel) 2 rfl rfl ?_
        refine v_if_lt (pc := 14) 23 (show decode (tC tMp_word) 14 = .ok (.ifCond .lt 9, 3) by decide +kernel) (by decide) (fun c => ?_) (fun c => ?_)
        · replace h := ite_t c h
          refine v_iconst (pc := 23) (v := 0) (show decode (tC tMp_word) 23 = .ok (.iconst 0, 1) by decide +kernel) (by decide) ?_
          obtain rfl := Option.some.inj h
          refine v_wide (ce2 := 0) (sl2 := 0) (by decide) (by decide) ?_
          exact v_iret (pc := 24) rfl (show decode (tC tMp_word) 24 = .ok (.ireturn, 1) by decide +kernel)
        · replace h := ite_f c h
          refine v_iload_n (pc := 17) (show decode (tC tMp_word) 17 = .ok (.iload_n 2, 1) by decide +kernel) 2 rfl rfl ?_
          refine v_bipush (pc := 18) (v := 16) (show decode (tC tMp_word) 18 = .ok (.bipush 16, 2) by decide +kernel) (by decide) ?_
          refine v_icmp_lt (pc := 20) 25 (show decode (tC tMp_word) 20 = .ok (.if_icmp .lt 5, 3) by decide +kernel) (by decide) (fun c => ?_) (fun c => ?_)
          · replace h := ite_t c h
            refine v_aload_n (pc := 25) (show decode (tC tMp_word) 25 = .ok (.aload_n 0, 1) by decide +kernel) 0 rfl rfl ?_
            obtain ⟨v6, e7, h⟩ := ob h
            refine v_getX (pc := 26) oF_Mp_10 e7 (show decode (tC tMp_word) 26 = .ok (.getfield 10, 3) by decide +kernel) ?_
            obtain ⟨v8, e9, h⟩ := ob h
            refine v_getX (pc := 29) oF_Mp_307 e9 (show decode (tC tMp_word) 29 = .ok (.getfield 307, 3) by decide +kernel) ?_
            refine v_iload_n (pc := 32) (show decode (tC tMp_word) 32 = .ok (.iload_n 1, 1) by decide +kernel) 1 rfl rfl ?_
            refine v_bipush (pc := 33) (v := 16) (show decode (tC tMp_word) 33 = .ok (.bipush 16, 2) by decide +kernel) (by decide) ?_
            refine v_imul (pc := 35) (show decode (tC tMp_word) 35 = .ok (.imul, 1) by decide +kernel) ?_
            refine v_iload_n (pc := 36) (show decode (tC tMp_word) 36 = .ok (.iload_n 2, 1) by decide +kernel) 2 rfl rfl ?_
            refine v_iadd (pc := 37) (show decode (tC tMp_word) 37 = .ok (.iadd, 1) by decide +kernel) ?_
            obtain ⟨v10, e11, h⟩ := ob h
            refine v_iald (pc := 38) e11 (show decode (tC tMp_word) 38 = .ok (.iaload, 1) by decide +kernel) ?_
            obtain rfl := Option.some.inj h
            refine v_wide (ce2 := 0) (sl2 := 0) (by decide) (by decide) ?_
            exact v_iret (pc := 39) rfl (show decode (tC tMp_word) 39 = .ok (.ireturn, 1) by decide +kernel)
          · replace h := ite_f c h
            refine v_iconst (pc := 23) (v := 0) (show decode (tC tMp_word) 23 = .ok (.iconst 0, 1) by decide +kernel) (by decide) ?_
            obtain rfl := Option.some.inj h
            refine v_wide (ce2 := 0) (sl2 := 0) (by decide) (by decide) ?_
            exact v_iret (pc := 24) rfl (show decode (tC tMp_word) 24 = .ok (.ireturn, 1) by decide +kernel)
  · subst h
    exact v_callT (pc := 1) (mc := 1) (ms := 6) hk (y := yMp_refuseIfUnderWay) (θ' := tMp_refuseIfUnderWay) (rm := rMp_refuseIfUnderWay) (av := [.ref x0]) (st := []) (cMp_refuseIfUnderWay (l := gl Γ) hl e1) kMp_refuseIfUnderWay iMp_refuseIfUnderWay (iv_virt (y := yMp_refuseIfUnderWay) (θ' := tMp_refuseIfUnderWay) (kd := 0) (As := []) rfl (ckd_of e2) kMp_refuseIfUnderWay (gT_in 1161 (by decide +kernel) rfl) nMp_refuseIfUnderWay lMp_refuseIfUnderWay mMp_refuseIfUnderWay rfl (show decode (tC tMp_word) 1 = .ok (.invokevirtual 304, 3) by decide +kernel)) ⟨by rw [hR]; decide, by rw [hR]; decide, by rw [hR]; decide, by rw [hR]; decide⟩ (Nat.le_of_ble_eq_true rfl) rfl
theorem cMp_word {l : Launch} (hl : l.flags = pinnedFlags ++ [noTraceFlag]) {D : va_G} {dA : Nat → ClassId} {B : Nat} {x0 : Nat} {x1 : Int32} {x2 : Int32} {S : Sx} {X : Nat × Int32 × Sx} (h : fMp_word x0 x1 x2 S = some X) : Mx l yMp_word tMp_word rMp_word (if X.1 = 0 then 0 else 1) (if X.1 = 0 then 0 else 6) D dA B S [.ref x0, .int x1, .int x2] X.1 (some (.int X.2.1)) X.2.2 :=
  mx_of hl (by decide) rfl rfl (Nat.le_of_ble_eq_true rfl) (fun Γ e1 e2 e3 e4 e5 => by subst e1; subst e3; subst e4; subst e5; exact wMp_word e2 hl x0 x1 x2 S h)
/-! MatchPipe.entries(I)I -/
def yMp_entries : MethodName := ⟨"MatchPipe", "entries", "(I)I"⟩
def tMp_entries : tM := (prog_1_method_25_code, "MatchPipe", 2, "entries", some .int, [])
def rMp_entries : Room := { frames := 7, cells := 1, slots := 6, locals := 130 }
theorem kMp_entries : cOf yMp_entries tMp_entries ∈ gT := gT_in 1172 (by decide +kernel) rfl
theorem iMp_entries : Cond.initialized yMp_entries.cls ∈ gT := gT_in 55 (by decide +kernel) rfl
theorem mMp_entries : okM yMp_entries 1 := ⟨by decide, by decide, by unfold nPar; decide +kernel⟩
theorem nMp_entries : Cond.instanceMethod yMp_entries ∈ gT := gT_in 1170 (by decide +kernel) rfl
theorem lMp_entries : Cond.selects "MatchPipe" yMp_entries yMp_entries ∈ gT := gT_in 1171 (by decide +kernel) rfl
def fMp_entries (x0 : Nat) (x1 : Int32) (S : Sx) : Option (Nat × Int32 × Sx) :=
    (ckd S x0 0).bind fun _ =>
    bdT (fMp_refuseIfUnderWay x0 S) fun r4 S5 =>
    (gX S5 0 1 x0).bind fun v6 =>
    (ckd S5 v6 1).bind fun _ =>
    bd2 (fPr_hasTable v6 x1 S5) fun r10 S11 =>
    if r10 = 0 then
    (some (0, (-1), S11))
    else
    ((gX S11 0 1 x0).bind fun v12 =>
    (gX S11 1 3 v12).bind fun v14 =>
    (aX S11 4 v14 x1).bind fun v16 =>
    (gI S11 4 1 v16).bind fun v18 =>
    some (0, v18, S11))
set_option maxRecDepth 100000 in
set_option maxHeartbeats 4000000 in
theorem wMp_entries {Γ : vG} (hR : gR Γ = rMp_entries) (hl : (gl Γ).flags = pinnedFlags ++ [noTraceFlag]) (x0 : Nat) (x1 : Int32) (S : Sx) {X : Nat × Int32 × Sx} (h : fMp_entries x0 x1 S = some X) : vV Γ tMp_entries (mQ Γ (if X.1 = 0 then 0 else 1) (if X.1 = 0 then 0 else 6) X.1 (some (.int X.2.1)) X.2.2) S 0 0 0 [(0, .ref x0), (1, .int x1)] [] := by
  unfold fMp_entries at h
  refine v_aload_n (pc := 0) (show decode (tC tMp_entries) 0 = .ok (.aload_n 0, 1) by decide +kernel) 0 rfl rfl ?_
  obtain ⟨_, e2, h⟩ := ob h
  obtain ⟨k3, r4, S5, e1, ⟨hk, h⟩ | ⟨hk, h⟩⟩ := obT h
  · subst hk
    refine v_callR (pc := 1) (mc := 1) (ms := 6) (v := none) (y := yMp_refuseIfUnderWay) (θ' := tMp_refuseIfUnderWay) (rm := rMp_refuseIfUnderWay) (av := [.ref x0]) (st := []) (cMp_refuseIfUnderWay (l := gl Γ) hl e1) kMp_refuseIfUnderWay iMp_refuseIfUnderWay (iv_virt (y := yMp_refuseIfUnderWay) (θ' := tMp_refuseIfUnderWay) (kd := 0) (As := []) rfl (ckd_of e2) kMp_refuseIfUnderWay (gT_in 1161 (by decide +kernel) rfl) nMp_refuseIfUnderWay lMp_refuseIfUnderWay mMp_refuseIfUnderWay rfl (show decode (tC tMp_entries) 1 = .ok (.invokevirtual 304, 3) by decide +kernel)) ⟨by rw [hR]; decide, by rw [hR]; decide, by rw [hR]; decide, by rw [hR]; decide⟩ (Nat.le_of_ble_eq_true rfl) ?_
    refine v_aload_n (pc := 4) (show decode (tC tMp_entries) 4 = .ok (.aload_n 0, 1) by decide +kernel) 0 rfl rfl ?_
    obtain ⟨v6, e7, h⟩ := ob h
    refine v_getX (pc := 5) oF_Mp_20 e7 (show decode (tC tMp_entries) 5 = .ok (.getfield 20, 3) by decide +kernel) ?_
    refine v_iload_n (pc := 8) (show decode (tC tMp_entries) 8 = .ok (.iload_n 1, 1) by decide +kernel) 1 rfl rfl ?_
    obtain ⟨_, e9, h⟩ := ob h
    obtain ⟨r10, S11, e8, h⟩ := ob2 h
    refine v_call (pc := 9) (v := (some (.int r10))) (y := yPr_hasTable) (θ' := tPr_hasTable) (rm := rPr_hasTable) (av := [.ref v6, .int x1]) (st := []) (cPr_hasTable (l := gl Γ) hl e8) kPr_hasTable iPr_hasTable (iv_virt (y := yPr_hasTable) (θ' := tPr_hasTable) (kd := 1) (As := [.int x1]) rfl (ckd_of e9) kPr_hasTable (gT_in 862 (by decide +kernel) rfl) nPr_hasTable lPr_hasTable mPr_hasTable rfl (show decode (tC tMp_entries) 9 = .ok (.invokevirtual 310, 3) by decide +kernel)) ⟨by rw [hR]; decide, by rw [hR]; decide, by rw [hR]; decide, by rw [hR]; decide⟩ (Nat.le_of_ble_eq_true rfl) ?_
    refine v_if_eq (pc := 12) 30 (show decode (tC tMp_entries) 12 = .ok (.ifCond .eq 18, 3) by decide +kernel) (by decide) (fun c => ?_) (fun c => ?_)
    · replace h := ite_t c h
      refine v_iconst (pc := 30) (v := (-1)) (show decode (tC tMp_entries) 30 = .ok (.iconst (-1), 1) by decide +kernel) (by decide) ?_
      obtain rfl := Option.some.inj h
      refine v_wide (ce2 := 0) (sl2 := 0) (by decide) (by decide) ?_
      exact v_iret (pc := 31) rfl (show decode (tC tMp_entries) 31 = .ok (.ireturn, 1) by decide +kernel)
    · replace h := ite_f c h
      refine v_aload_n (pc := 15) (show decode (tC tMp_entries) 15 = .ok (.aload_n 0, 1) by decide +kernel) 0 rfl rfl ?_
      obtain ⟨v12, e13, h⟩ := ob h
      refine v_getX (pc := 16) oF_Mp_20 e13 (show decode (tC tMp_entries) 16 = .ok (.getfield 20, 3) by decide +kernel) ?_
      obtain ⟨v14, e15, h⟩ := ob h
      refine v_getX (pc := 19) oF_Mp_169 e15 (show decode (tC tMp_entries) 19 = .ok (.getfield 169, 3) by decide +kernel) ?_
      refine v_iload_n (pc := 22) (show decode (tC tMp_entries) 22 = .ok (.iload_n 1, 1) by decide +kernel) 1 rfl rfl ?_
      obtain ⟨v16, e17, h⟩ := ob h
      refine v_aald (pc := 23) (kd := 4) rfl e17 (show decode (tC tMp_entries) 23 = .ok (.aaload, 1) by decide +kernel) ?_
      obtain ⟨v18, e19, h⟩ := ob h
      refine v_getI (pc := 24) oF_Mp_313 (by decide) e19 (show decode (tC tMp_entries) 24 = .ok (.getfield 313, 3) by decide +kernel) ?_
      refine v_goto (pc := 27) 31 (show decode (tC tMp_entries) 27 = .ok (.goto 4, 3) by decide +kernel) (by decide) ?_
      obtain rfl := Option.some.inj h
      refine v_wide (ce2 := 0) (sl2 := 0) (by decide) (by decide) ?_
      exact v_iret (pc := 31) rfl (show decode (tC tMp_entries) 31 = .ok (.ireturn, 1) by decide +kernel)
  · subst h
    exact v_callT (pc := 1) (mc := 1) (ms := 6) hk (y := yMp_refuseIfUnderWay) (θ' := tMp_refuseIfUnderWay) (rm := rMp_refuseIfUnderWay) (av := [.ref x0]) (st := []) (cMp_refuseIfUnderWay (l := gl Γ) hl e1) kMp_refuseIfUnderWay iMp_refuseIfUnderWay (iv_virt (y := yMp_refuseIfUnderWay) (θ' := tMp_refuseIfUnderWay) (kd := 0) (As := []) rfl (ckd_of e2) kMp_refuseIfUnderWay (gT_in 1161 (by decide +kernel) rfl) nMp_refuseIfUnderWay lMp_refuseIfUnderWay mMp_refuseIfUnderWay rfl (show decode (tC tMp_entries) 1 = .ok (.invokevirtual 304, 3) by decide +kernel)) ⟨by rw [hR]; decide, by rw [hR]; decide, by rw [hR]; decide, by rw [hR]; decide⟩ (Nat.le_of_ble_eq_true rfl) rfl
theorem cMp_entries {l : Launch} (hl : l.flags = pinnedFlags ++ [noTraceFlag]) {D : va_G} {dA : Nat → ClassId} {B : Nat} {x0 : Nat} {x1 : Int32} {S : Sx} {X : Nat × Int32 × Sx} (h : fMp_entries x0 x1 S = some X) : Mx l yMp_entries tMp_entries rMp_entries (if X.1 = 0 then 0 else 1) (if X.1 = 0 then 0 else 6) D dA B S [.ref x0, .int x1] X.1 (some (.int X.2.1)) X.2.2 :=
  mx_of hl (by decide) rfl rfl (Nat.le_of_ble_eq_true rfl) (fun Γ e1 e2 e3 e4 e5 => by subst e1; subst e3; subst e4; subst e5; exact wMp_entries e2 hl x0 x1 S h)
