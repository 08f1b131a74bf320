/-! MatchPipeLaw.field(LMatchPipe;I[J)I -/
def yLw_field : MethodName := ⟨"MatchPipeLaw", "field", "(LMatchPipe;I[J)I"⟩
def tLw_field : tM := (method_3_code, "MatchPipeLaw", 4, "field", some .int, [(0, 9, 12, 13), (0, 9, 15, 15)])
def rLw_field : Room := { frames := 9, cells := 1, slots := 6, locals := 173 }
theorem kLw_field : cOf yLw_field tLw_field ∈ gT := gT_in 624 (by decide +kernel) (by decide +kernel)
theorem iLw_field : Cond.initialized yLw_field.cls ∈ gT := gT_in 54 (by decide +kernel) rfl
theorem mLw_field : okM yLw_field 3 := ⟨by decide, by decide, by unfold nPar; decide +kernel⟩
theorem sLw_field : Cond.static yLw_field ∈ gT := gT_in 623 (by decide +kernel) rfl
def fLw_field (x0 : Nat) (x1 : Int32) (x2 : Nat) (S : Sx) : Option (Int32 × Sx) :=
    (ckd S x0 0).bind fun _ =>
    bdC (fMp_field x0 x1 S) (fun r4 S5 =>
    (qJ S5 x2 0 (Int32.toInt64 r4)).bind fun S6 =>
    some (0, S6))
    (fun k3 S5 =>
    if k3 = 1 then
    (some (1, S5))
    else if k3 = 2 then
    (some (2, S5))
    else  none)
set_option maxRecDepth 100000 in
set_option maxHeartbeats 4000000 in
theorem wLw_field {Γ : vG} (hR : gR Γ = rLw_field) (hl : (gl Γ).flags = pinnedFlags ++ [noTraceFlag]) (x0 : Nat) (x1 : Int32) (x2 : Nat) (S : Sx) {X : Int32 × Sx} (h : fLw_field x0 x1 x2 S = some X) : vV Γ tLw_field (mQ Γ 1 6 0 (some (.int X.1)) X.2) S 0 0 0 [(0, .ref x0), (1, .int x1), (2, .ref x2)] [] := by
  unfold fLw_field at h
  refine v_aload_n (pc := 0) (show decode (tC tLw_field) 0 = .ok (.aload_n 2, 1) by decide +kernel) 2 rfl rfl ?_
  refine v_iconst (pc := 1) (v := 0) (show decode (tC tLw_field) 1 = .ok (.iconst 0, 1) by decide +kernel) (by decide) ?_
  refine v_aload_n (pc := 2) (show decode (tC tLw_field) 2 = .ok (.aload_n 0, 1) by decide +kernel) 0 rfl rfl ?_
  refine v_iload_n (pc := 3) (show decode (tC tLw_field) 3 = .ok (.iload_n 1, 1) by decide +kernel) 1 rfl rfl ?_
  obtain ⟨_, e2, h⟩ := ob h
  obtain ⟨k3, r4, S5, e1, ⟨hk, h⟩ | ⟨hk, h⟩⟩ := obC h
  · subst hk
    refine v_callR (pc := 4) (mc := 1) (ms := 6) (v := (some (.int r4))) (y := yMp_field) (θ' := tMp_field) (rm := rMp_field) (av := [.ref x0, .int x1]) (st := [.int 0, .ref x2]) (cMp_field (l := gl Γ) hl e1) kMp_field iMp_field (iv_virt (y := yMp_field) (θ' := tMp_field) (kd := 0) (As := [.int x1]) rfl (ckd_of e2) kMp_field (gT_in 627 (by decide +kernel) rfl) nMp_field lMp_field mMp_field rfl (show decode (tC tLw_field) 4 = .ok (.invokevirtual 7, 3) by decide +kernel)) ⟨by rw [hR]; decide, by rw [hR]; decide, by rw [hR]; decide, by rw [hR]; decide⟩ (Nat.le_of_ble_eq_true rfl) ?_
    refine v_i2l (pc := 7) (show decode (tC tLw_field) 7 = .ok (.i2l, 1) by decide +kernel) ?_
    obtain ⟨S6, e7, h⟩ := ob h
    refine v_last (pc := 8) e7 (show decode (tC tLw_field) 8 = .ok (.lastore, 1) by decide +kernel) ?_
    refine v_goto (pc := 9) 18 (show decode (tC tLw_field) 9 = .ok (.goto 9, 3) by decide +kernel) (by decide) ?_
    refine v_iconst (pc := 18) (v := 0) (show decode (tC tLw_field) 18 = .ok (.iconst 0, 1) by decide +kernel) (by decide) ?_
    obtain rfl := Option.some.inj h
    refine v_wide (ce2 := 1) (sl2 := 6) (Nat.le_of_ble_eq_true rfl) (Nat.le_of_ble_eq_true rfl) ?_
    exact v_iret (pc := 19) rfl (show decode (tC tLw_field) 19 = .ok (.ireturn, 1) by decide +kernel)
  · by_cases c0 : k3 = 1
    · replace h := ite_t c0 h
      subst c0
      refine v_callC (pc := 4) (k := 1) hk (y := yMp_field) (θ' := tMp_field) (rm := rMp_field) (av := [.ref x0, .int x1]) (st := [.int 0, .ref x2]) (cMp_field (l := gl Γ) hl e1) kMp_field iMp_field (iv_virt (y := yMp_field) (θ' := tMp_field) (kd := 0) (As := [.int x1]) rfl (ckd_of e2) kMp_field (gT_in 627 (by decide +kernel) rfl) nMp_field lMp_field mMp_field rfl (show decode (tC tLw_field) 4 = .ok (.invokevirtual 7, 3) by decide +kernel)) ⟨by rw [hR]; decide, by rw [hR]; decide, by rw [hR]; decide, by rw [hR]; decide⟩ (Nat.le_of_ble_eq_true rfl) [] ⟨0, 9, 12, 13⟩ [⟨0, 9, 15, 15⟩] rfl (fun _ h => absurd h List.not_mem_nil) rfl (by decide) (gT_in 625 (by decide +kernel) rfl) (List.mem_of_getElem? (l := nC) (i := 0) rfl) (fun a8 => ?_)
      refine v_astore_n (pc := 12) [(3, .ref a8), (0, .ref x0), (1, .int x1), (2, .ref x2)] (show decode (tC tLw_field) 12 = .ok (.astore_n 3, 1) by decide +kernel) rfl (by decide) rfl ?_
      refine v_iconst (pc := 13) (v := 1) (show decode (tC tLw_field) 13 = .ok (.iconst 1, 1) by decide +kernel) (by decide) ?_
      obtain rfl := Option.some.inj h
      refine v_wide (ce2 := 1) (sl2 := 6) (Nat.le_of_ble_eq_true rfl) (Nat.le_of_ble_eq_true rfl) ?_
      exact v_iret (pc := 14) rfl (show decode (tC tLw_field) 14 = .ok (.ireturn, 1) by decide +kernel)
    · replace h := ite_f c0 h
      by_cases c1 : k3 = 2
      · replace h := ite_t c1 h
        subst c1
        refine v_callC (pc := 4) (k := 2) hk (y := yMp_field) (θ' := tMp_field) (rm := rMp_field) (av := [.ref x0, .int x1]) (st := [.int 0, .ref x2]) (cMp_field (l := gl Γ) hl e1) kMp_field iMp_field (iv_virt (y := yMp_field) (θ' := tMp_field) (kd := 0) (As := [.int x1]) rfl (ckd_of e2) kMp_field (gT_in 627 (by decide +kernel) rfl) nMp_field lMp_field mMp_field rfl (show decode (tC tLw_field) 4 = .ok (.invokevirtual 7, 3) by decide +kernel)) ⟨by rw [hR]; decide, by rw [hR]; decide, by rw [hR]; decide, by rw [hR]; decide⟩ (Nat.le_of_ble_eq_true rfl) [⟨0, 9, 12, 13⟩] ⟨0, 9, 15, 15⟩ [] rfl (List.forall_mem_cons.mpr ⟨⟨rfl, by decide, _, (gT_in 625 (by decide +kernel) rfl), List.mem_of_getElem? (l := nX) (i := 2) rfl⟩, (fun _ h => absurd h List.not_mem_nil)⟩) rfl (by decide) (gT_in 626 (by decide +kernel) rfl) (List.mem_of_getElem? (l := nC) (i := 1) rfl) (fun a9 => ?_)
        refine v_astore_n (pc := 15) [(3, .ref a9), (0, .ref x0), (1, .int x1), (2, .ref x2)] (show decode (tC tLw_field) 15 = .ok (.astore_n 3, 1) by decide +kernel) rfl (by decide) rfl ?_
        refine v_iconst (pc := 16) (v := 2) (show decode (tC tLw_field) 16 = .ok (.iconst 2, 1) by decide +kernel) (by decide) ?_
        obtain rfl := Option.some.inj h
        refine v_wide (ce2 := 1) (sl2 := 6) (Nat.le_of_ble_eq_true rfl) (Nat.le_of_ble_eq_true rfl) ?_
        exact v_iret (pc := 17) rfl (show decode (tC tLw_field) 17 = .ok (.ireturn, 1) by decide +kernel)
      · replace h := ite_f c1 h
        cases h
theorem cLw_field {l : Launch} (hl : l.flags = pinnedFlags ++ [noTraceFlag]) {D : va_G} {dA : Nat → ClassId} {B : Nat} {x0 : Nat} {x1 : Int32} {x2 : Nat} {S : Sx} {X : Int32 × Sx} (h : fLw_field x0 x1 x2 S = some X) : Mx l yLw_field tLw_field rLw_field 1 6 D dA B S [.ref x0, .int x1, .ref x2] 0 (some (.int X.1)) X.2 :=
  mx_of hl (by decide) rfl rfl (Nat.le_of_ble_eq_true rfl) (fun Γ e1 e2 e3 e4 e5 => by subst e1; subst e3; subst e4; subst e5; exact wLw_field e2 hl x0 x1 x2 S h)
/-! MatchPipeLaw.state(LMatchPipe;IIIII[J)I -/
def yLw_state : MethodName := ⟨"MatchPipeLaw", "state", "(LMatchPipe;IIIII[J)I"⟩
def tLw_state : tM := (method_4_code, "MatchPipeLaw", 8, "state", some .int, [(0, 16, 19, 21), (0, 16, 23, 15)])
def rLw_state : Room := { frames := 9, cells := 1, slots := 6, locals := 179 }
theorem kLw_state : cOf yLw_state tLw_state ∈ gT := gT_in 726 (by decide +kernel) (by decide +kernel)
theorem iLw_state : Cond.initialized yLw_state.cls ∈ gT := gT_in 54 (by decide +kernel) rfl
theorem mLw_state : okM yLw_state 7 := ⟨by decide, by decide, by unfold nPar; decide +kernel⟩
theorem sLw_state : Cond.static yLw_state ∈ gT := gT_in 725 (by decide +kernel) rfl
def fLw_state (x0 : Nat) (x1 : Int32) (x2 : Int32) (x3 : Int32) (x4 : Int32) (x5 : Int32) (x6 : Nat) (S : Sx) : Option (Int32 × Sx) :=
    (ckd S x0 0).bind fun _ =>
    bdC (fMp_state x0 x1 x2 x3 x4 x5 S) (fun r4 S5 =>
    (qJ S5 x6 0 (Int32.toInt64 r4)).bind fun S6 =>
    some (0, S6))
    (fun k3 S5 =>
    if k3 = 3 then
    (some (1, S5))
    else if k3 = 2 then
    (some (2, S5))
    else  none)
set_option maxRecDepth 100000 in
set_option maxHeartbeats 4000000 in
theorem wLw_state {Γ : vG} (hR : gR Γ = rLw_state) (hl : (gl Γ).flags = pinnedFlags ++ [noTraceFlag]) (x0 : Nat) (x1 : Int32) (x2 : Int32) (x3 : Int32) (x4 : Int32) (x5 : Int32) (x6 : Nat) (S : Sx) {X : Int32 × Sx} (h : fLw_state x0 x1 x2 x3 x4 x5 x6 S = some X) : vV Γ tLw_state (mQ Γ 1 6 0 (some (.int X.1)) X.2) S 0 0 0 [(0, .ref x0), (1, .int x1), (2, .int x2), (3, .int x3), (4, .int x4), (5, .int x5), (6, .ref x6)] [] := by
  unfold fLw_state at h
  refine v_aload (pc := 0) (show decode (tC tLw_state) 0 = .ok (.aload 6, 2) by decide +kernel) 6 rfl ?_
  refine v_iconst (pc := 2) (v := 0) (show decode (tC tLw_state) 2 = .ok (.iconst 0, 1) by decide +kernel) (by decide) ?_
  refine v_aload_n (pc := 3) (show decode (tC tLw_state) 3 = .ok (.aload_n 0, 1) by decide +kernel) 0 rfl rfl ?_
  refine v_iload_n (pc := 4) (show decode (tC tLw_state) 4 = .ok (.iload_n 1, 1) by decide +kernel) 1 rfl rfl ?_
  refine v_iload_n (pc := 5) (show decode (tC tLw_state) 5 = .ok (.iload_n 2, 1) by decide +kernel) 2 rfl rfl ?_
  refine v_iload_n (pc := 6) (show decode (tC tLw_state) 6 = .ok (.iload_n 3, 1) by decide +kernel) 3 rfl rfl ?_
  refine v_iload (pc := 7) (show decode (tC tLw_state) 7 = .ok (.iload 4, 2) by decide +kernel) 4 rfl ?_
  refine v_iload (pc := 9) (show decode (tC tLw_state) 9 = .ok (.iload 5, 2) by decide +kernel) 5 rfl ?_
  obtain ⟨_, e2, h⟩ := ob h
  obtain ⟨k3, r4, S5, e1, ⟨hk, h⟩ | ⟨hk, h⟩⟩ := obC h
  · subst hk
    refine v_callR (pc := 11) (mc := 1) (ms := 6) (v := (some (.int r4))) (y := yMp_state) (θ' := tMp_state) (rm := rMp_state) (av := [.ref x0, .int x1, .int x2, .int x3, .int x4, .int x5]) (st := [.int 0, .ref x6]) (cMp_state (l := gl Γ) hl e1) kMp_state iMp_state (iv_virt (y := yMp_state) (θ' := tMp_state) (kd := 0) (As := [.int x1, .int x2, .int x3, .int x4, .int x5]) rfl (ckd_of e2) kMp_state (gT_in 728 (by decide +kernel) rfl) nMp_state lMp_state mMp_state rfl (show decode (tC tLw_state) 11 = .ok (.invokevirtual 17, 3) by decide +kernel)) ⟨by rw [hR]; decide, by rw [hR]; decide, by rw [hR]; decide, by rw [hR]; decide⟩ (Nat.le_of_ble_eq_true rfl) ?_
    refine v_i2l (pc := 14) (show decode (tC tLw_state) 14 = .ok (.i2l, 1) by decide +kernel) ?_
    obtain ⟨S6, e7, h⟩ := ob h
    refine v_last (pc := 15) e7 (show decode (tC tLw_state) 15 = .ok (.lastore, 1) by decide +kernel) ?_
    refine v_goto (pc := 16) 27 (show decode (tC tLw_state) 16 = .ok (.goto 11, 3) by decide +kernel) (by decide) ?_
    refine v_iconst (pc := 27) (v := 0) (show decode (tC tLw_state) 27 = .ok (.iconst 0, 1) by decide +kernel) (by decide) ?_
    obtain rfl := Option.some.inj h
    refine v_wide (ce2 := 1) (sl2 := 6) (Nat.le_of_ble_eq_true rfl) (Nat.le_of_ble_eq_true rfl) ?_
    exact v_iret (pc := 28) rfl (show decode (tC tLw_state) 28 = .ok (.ireturn, 1) by decide +kernel)
  · by_cases c0 : k3 = 3
    · replace h := ite_t c0 h
      subst c0
      refine v_callC (pc := 11) (k := 3) hk (y := yMp_state) (θ' := tMp_state) (rm := rMp_state) (av := [.ref x0, .int x1, .int x2, .int x3, .int x4, .int x5]) (st := [.int 0, .ref x6]) (cMp_state (l := gl Γ) hl e1) kMp_state iMp_state (iv_virt (y := yMp_state) (θ' := tMp_state) (kd := 0) (As := [.int x1, .int x2, .int x3, .int x4, .int x5]) rfl (ckd_of e2) kMp_state (gT_in 728 (by decide +kernel) rfl) nMp_state lMp_state mMp_state rfl (show decode (tC tLw_state) 11 = .ok (.invokevirtual 17, 3) by decide +kernel)) ⟨by rw [hR]; decide, by rw [hR]; decide, by rw [hR]; decide, by rw [hR]; decide⟩ (Nat.le_of_ble_eq_true rfl) [] ⟨0, 16, 19, 21⟩ [⟨0, 16, 23, 15⟩] rfl (fun _ h => absurd h List.not_mem_nil) rfl (by decide) (gT_in 727 (by decide +kernel) rfl) (List.mem_of_getElem? (l := nC) (i := 2) rfl) (fun a8 => ?_)
      refine v_astore (pc := 19) [(7, .ref a8), (0, .ref x0), (1, .int x1), (2, .int x2), (3, .int x3), (4, .int x4), (5, .int x5), (6, .ref x6)] (show decode (tC tLw_state) 19 = .ok (.astore 7, 2) by decide +kernel) (by decide) rfl ?_
      refine v_iconst (pc := 21) (v := 1) (show decode (tC tLw_state) 21 = .ok (.iconst 1, 1) by decide +kernel) (by decide) ?_
      obtain rfl := Option.some.inj h
      refine v_wide (ce2 := 1) (sl2 := 6) (Nat.le_of_ble_eq_true rfl) (Nat.le_of_ble_eq_true rfl) ?_
      exact v_iret (pc := 22) rfl (show decode (tC tLw_state) 22 = .ok (.ireturn, 1) by decide +kernel)
    · replace h := ite_f c0 h
      by_cases c1 : k3 = 2
      · replace h := ite_t c1 h
        subst c1
        refine v_callC (pc := 11) (k := 2) hk (y := yMp_state) (θ' := tMp_state) (rm := rMp_state) (av := [.ref x0, .int x1, .int x2, .int x3, .int x4, .int x5]) (st := [.int 0, .ref x6]) (cMp_state (l := gl Γ) hl e1) kMp_state iMp_state (iv_virt (y := yMp_state) (θ' := tMp_state) (kd := 0) (As := [.int x1, .int x2, .int x3, .int x4, .int x5]) rfl (ckd_of e2) kMp_state (gT_in 728 (by decide +kernel) rfl) nMp_state lMp_state mMp_state rfl (show decode (tC tLw_state) 11 = .ok (.invokevirtual 17, 3) by decide +kernel)) ⟨by rw [hR]; decide, by rw [hR]; decide, by rw [hR]; decide, by rw [hR]; decide⟩ (Nat.le_of_ble_eq_true rfl) [⟨0, 16, 19, 21⟩] ⟨0, 16, 23, 15⟩ [] rfl (List.forall_mem_cons.mpr ⟨⟨rfl, by decide, _, (gT_in 727 (by decide +kernel) rfl), List.mem_of_getElem? (l := nX) (i := 3) rfl⟩, (fun _ h => absurd h List.not_mem_nil)⟩) rfl (by decide) (gT_in 626 (by decide +kernel) rfl) (List.mem_of_getElem? (l := nC) (i := 1) rfl) (fun a9 => ?_)
        refine v_astore (pc := 23) [(7, .ref a9), (0, .ref x0), (1, .int x1), (2, .int x2), (3, .int x3), (4, .int x4), (5, .int x5), (6, .ref x6)] (show decode (tC tLw_state) 23 = .ok (.astore 7, 2) by decide +kernel) (by decide) rfl ?_
        refine v_iconst (pc := 25) (v := 2) (show decode (tC tLw_state) 25 = .ok (.iconst 2, 1) by decide +kernel) (by decide) ?_
        obtain rfl := Option.some.inj h
        refine v_wide (ce2 := 1) (sl2 := 6) (Nat.le_of_ble_eq_true rfl) (Nat.le_of_ble_eq_true rfl) ?_
        exact v_iret (pc := 26) rfl (show decode (tC tLw_state) 26 = .ok (.ireturn, 1) by decide +kernel)
      · replace h := ite_f c1 h
        cases h
theorem cLw_state {l : Launch} (hl : l.flags = pinnedFlags ++ [noTraceFlag]) {D : va_G} {dA : Nat → ClassId} {B : Nat} {x0 : Nat} {x1 : Int32} {x2 : Int32} {x3 : Int32} {x4 : Int32} {x5 : Int32} {x6 : Nat} {S : Sx} {X : Int32 × Sx} (h : fLw_state x0 x1 x2 x3 x4 x5 x6 S = some X) : Mx l yLw_state tLw_state rLw_state 1 6 D dA B S [.ref x0, .int x1, .int x2, .int x3, .int x4, .int x5, .ref x6] 0 (some (.int X.1)) X.2 :=
  mx_of hl (by decide) rfl rfl (Nat.le_of_ble_eq_true rfl) (fun Γ e1 e2 e3 e4 e5 => by subst e1; subst e3; subst e4; subst e5; exact wLw_state e2 hl x0 x1 x2 x3 x4 x5 x6 S h)
/-! MatchPipeLaw.choice(LMatchPipe;IIII)I -/
def yLw_choice : MethodName := ⟨"MatchPipeLaw", "choice", "(LMatchPipe;IIII)I"⟩
def tLw_choice : tM := (method_5_code, "MatchPipeLaw", 6, "choice", some .int, [(0, 9, 12, 21), (0, 9, 16, 15)])
def rLw_choice : Room := { frames := 9, cells := 1, slots := 6, locals := 177 }
theorem kLw_choice : cOf yLw_choice tLw_choice ∈ gT := gT_in 765 (by decide +kernel) (by decide +kernel)
theorem iLw_choice : Cond.initialized yLw_choice.cls ∈ gT := gT_in 54 (by decide +kernel) rfl
theorem mLw_choice : okM yLw_choice 5 := ⟨by decide, by decide, by unfold nPar; decide +kernel⟩
theorem sLw_choice : Cond.static yLw_choice ∈ gT := gT_in 764 (by decide +kernel) rfl
def fLw_choice (x0 : Nat) (x1 : Int32) (x2 : Int32) (x3 : Int32) (x4 : Int32) (S : Sx) : Option (Int32 × Sx) :=
    (ckd S x0 0).bind fun _ =>
    bdC (fMp_choice x0 x1 x2 x3 x4 S) (fun r4 S5 =>
    some (0, S5))
    (fun k3 S5 =>
    if k3 = 3 then
    (some (1, S5))
    else if k3 = 2 then
    (some (2, S5))
    else  none)
set_option maxRecDepth 100000 in
set_option maxHeartbeats 4000000 in
theorem wLw_choice {Γ : vG} (hR : gR Γ = rLw_choice) (hl : (gl Γ).flags = pinnedFlags ++ [noTraceFlag]) (x0 : Nat) (x1 : Int32) (x2 : Int32) (x3 : Int32) (x4 : Int32) (S : Sx) {X : Int32 × Sx} (h : fLw_choice x0 x1 x2 x3 x4 S = some X) : vV Γ tLw_choice (mQ Γ 1 6 0 (some (.int X.1)) X.2) S 0 0 0 [(0, .ref x0), (1, .int x1), (2, .int x2), (3, .int x3), (4, .int x4)] [] := by
  unfold fLw_choice at h
  refine v_aload_n (pc := 0) (show decode (tC tLw_choice) 0 = .ok (.aload_n 0, 1) by decide +kernel) 0 rfl rfl ?_
  refine v_iload_n (pc := 1) (show decode (tC tLw_choice) 1 = .ok (.iload_n 1, 1) by decide +kernel) 1 rfl rfl ?_
  refine v_iload_n (pc := 2) (show decode (tC tLw_choice) 2 = .ok (.iload_n 2, 1) by decide +kernel) 2 rfl rfl ?_
  refine v_iload_n (pc := 3) (show decode (tC tLw_choice) 3 = .ok (.iload_n 3, 1) by decide +kernel) 3 rfl rfl ?_
  refine v_iload (pc := 4) (show decode (tC tLw_choice) 4 = .ok (.iload 4, 2) by decide +kernel) 4 rfl ?_
  obtain ⟨_, e2, h⟩ := ob h
  obtain ⟨k3, r4, S5, e1, ⟨hk, h⟩ | ⟨hk, h⟩⟩ := obC h
  · subst hk
    refine v_callR (pc := 6) (mc := 1) (ms := 6) (v := none) (y := yMp_choice) (θ' := tMp_choice) (rm := rMp_choice) (av := [.ref x0, .int x1, .int x2, .int x3, .int x4]) (st := []) (cMp_choice (l := gl Γ) hl e1) kMp_choice iMp_choice (iv_virt (y := yMp_choice) (θ' := tMp_choice) (kd := 0) (As := [.int x1, .int x2, .int x3, .int x4]) rfl (ckd_of e2) kMp_choice (gT_in 766 (by decide +kernel) rfl) nMp_choice lMp_choice mMp_choice rfl (show decode (tC tLw_choice) 6 = .ok (.invokevirtual 23, 3) by decide +kernel)) ⟨by rw [hR]; decide, by rw [hR]; decide, by rw [hR]; decide, by rw [hR]; decide⟩ (Nat.le_of_ble_eq_true rfl) ?_
    refine v_goto (pc := 9) 20 (show decode (tC tLw_choice) 9 = .ok (.goto 11, 3) by decide +kernel) (by decide) ?_
    refine v_iconst (pc := 20) (v := 0) (show decode (tC tLw_choice) 20 = .ok (.iconst 0, 1) by decide +kernel) (by decide) ?_
    obtain rfl := Option.some.inj h
    refine v_wide (ce2 := 1) (sl2 := 6) (Nat.le_of_ble_eq_true rfl) (Nat.le_of_ble_eq_true rfl) ?_
    exact v_iret (pc := 21) rfl (show decode (tC tLw_choice) 21 = .ok (.ireturn, 1) by decide +kernel)
  · by_cases c0 : k3 = 3
    · replace h := ite_t c0 h
      subst c0
      refine v_callC (pc := 6) (k := 3) hk (y := yMp_choice) (θ' := tMp_choice) (rm := rMp_choice) (av := [.ref x0, .int x1, .int x2, .int x3, .int x4]) (st := []) (cMp_choice (l := gl Γ) hl e1) kMp_choice iMp_choice (iv_virt (y := yMp_choice) (θ' := tMp_choice) (kd := 0) (As := [.int x1, .int x2, .int x3, .int x4]) rfl (ckd_of e2) kMp_choice (gT_in 766 (by decide +kernel) rfl) nMp_choice lMp_choice mMp_choice rfl (show decode (tC tLw_choice) 6 = .ok (.invokevirtual 23, 3) by decide +kernel)) ⟨by rw [hR]; decide, by rw [hR]; decide, by rw [hR]; decide, by rw [hR]; decide⟩ (Nat.le_of_ble_eq_true rfl) [] ⟨0, 9, 12, 21⟩ [⟨0, 9, 16, 15⟩] rfl (fun _ h => absurd h List.not_mem_nil) rfl (by decide) (gT_in 727 (by decide +kernel) rfl) (List.mem_of_getElem? (l := nC) (i := 2) rfl) (fun a6 => ?_)
      refine v_astore (pc := 12) [(5, .ref a6), (0, .ref x0), (1, .int x1), (2, .int x2), (3, .int x3), (4, .int x4)] (show decode (tC tLw_choice) 12 = .ok (.astore 5, 2) by decide +kernel) (by decide) rfl ?_
      refine v_iconst (pc := 14) (v := 1) (show decode (tC tLw_choice) 14 = .ok (.iconst 1, 1) by decide +kernel) (by decide) ?_
      obtain rfl := Option.some.inj h
      refine v_wide (ce2 := 1) (sl2 := 6) (Nat.le_of_ble_eq_true rfl) (Nat.le_of_ble_eq_true rfl) ?_
      exact v_iret (pc := 15) rfl (show decode (tC tLw_choice) 15 = .ok (.ireturn, 1) by decide +kernel)
    · replace h := ite_f c0 h
      by_cases c1 : k3 = 2
      · replace h := ite_t c1 h
        subst c1
        refine v_callC (pc := 6) (k := 2) hk (y := yMp_choice) (θ' := tMp_choice) (rm := rMp_choice) (av := [.ref x0, .int x1, .int x2, .int x3, .int x4]) (st := []) (cMp_choice (l := gl Γ) hl e1) kMp_choice iMp_choice (iv_virt (y := yMp_choice) (θ' := tMp_choice) (kd := 0) (As := [.int x1, .int x2, .int x3, .int x4]) rfl (ckd_of e2) kMp_choice (gT_in 766 (by decide +kernel) rfl) nMp_choice lMp_choice mMp_choice rfl (show decode (tC tLw_choice) 6 = .ok (.invokevirtual 23, 3) by decide +kernel)) ⟨by rw [hR]; decide, by rw [hR]; decide, by rw [hR]; decide, by rw [hR]; decide⟩ (Nat.le_of_ble_eq_true rfl) [⟨0, 9, 12, 21⟩] ⟨0, 9, 16, 15⟩ [] rfl (List.forall_mem_cons.mpr ⟨⟨rfl, by decide, _, (gT_in 727 (by decide +kernel) rfl), List.mem_of_getElem? (l := nX) (i := 3) rfl⟩, (fun _ h => absurd h List.not_mem_nil)⟩) rfl (by decide) (gT_in 626 (by decide +kernel) rfl) (List.mem_of_getElem? (l := nC) (i := 1) rfl) (fun a7 => ?_)
        refine v_astore (pc := 16) [(5, .ref a7), (0, .ref x0), (1, .int x1), (2, .int x2), (3, .int x3), (4, .int x4)] (show decode (tC tLw_choice) 16 = .ok (.astore 5, 2) by decide +kernel) (by decide) rfl ?_
        refine v_iconst (pc := 18) (v := 2) (show decode (tC tLw_choice) 18 = .ok (.iconst 2, 1) by decide +kernel) (by decide) ?_
        obtain rfl := Option.some.inj h
        refine v_wide (ce2 := 1) (sl2 := 6) (Nat.le_of_ble_eq_true rfl) (Nat.le_of_ble_eq_true rfl) ?_
        exact v_iret (pc := 19) rfl (show decode (tC tLw_choice) 19 = .ok (.ireturn, 1) by decide +kernel)
      · replace h := ite_f c1 h
        cases h
theorem cLw_choice {l : Launch} (hl : l.flags = pinnedFlags ++ [noTraceFlag]) {D : va_G} {dA : Nat → ClassId} {B : Nat} {x0 : Nat} {x1 : Int32} {x2 : Int32} {x3 : Int32} {x4 : Int32} {S : Sx} {X : Int32 × Sx} (h : fLw_choice x0 x1 x2 x3 x4 S = some X) : Mx l yLw_choice tLw_choice rLw_choice 1 6 D dA B S [.ref x0, .int x1, .int x2, .int x3, .int x4] 0 (some (.int X.1)) X.2 :=
  mx_of hl (by decide) rfl rfl (Nat.le_of_ble_eq_true rfl) (fun Γ e1 e2 e3 e4 e5 => by subst e1; subst e3; subst e4; subst e5; exact wLw_choice e2 hl x0 x1 x2 x3 x4 S h)
/-! MatchPipeLaw.otherwise(LMatchPipe;II)I -/
def yLw_otherwise : MethodName := ⟨"MatchPipeLaw", "otherwise", "(LMatchPipe;II)I"⟩
def tLw_otherwise : tM := (method_6_code, "MatchPipeLaw", 4, "otherwise", some .int, [(0, 6, 9, 21), (0, 6, 12, 15)])
def rLw_otherwise : Room := { frames := 8, cells := 1, slots := 6, locals := 154 }
theorem kLw_otherwise : cOf yLw_otherwise tLw_otherwise ∈ gT := gT_in 782 (by decide +kernel) (by decide +kernel)
theorem iLw_otherwise : Cond.initialized yLw_otherwise.cls ∈ gT := gT_in 54 (by decide +kernel) rfl
theorem mLw_otherwise : okM yLw_otherwise 3 := ⟨by decide, by decide, by unfold nPar; decide +kernel⟩
theorem sLw_otherwise : Cond.static yLw_otherwise ∈ gT := gT_in 781 (by decide +kernel) rfl
def fLw_otherwise (x0 : Nat) (x1 : Int32) (x2 : Int32) (S : Sx) : Option (Int32 × Sx) :=
    (ckd S x0 0).bind fun _ =>
    bdC (fMp_otherwise x0 x1 x2 S) (fun r4 S5 =>
    some (0, S5))
    (fun k3 S5 =>
    if k3 = 3 then
    (some (1, S5))
    else if k3 = 2 then
    (some (2, S5))
    else  none)
set_option maxRecDepth 100000 in
set_option maxHeartbeats 4000000 in
theorem wLw_otherwise {Γ : vG} (hR : gR Γ = rLw_otherwise) (hl : (gl Γ).flags = pinnedFlags ++ [noTraceFlag]) (x0 : Nat) (x1 : Int32) (x2 : Int32) (S : Sx) {X : Int32 × Sx} (h : fLw_otherwise x0 x1 x2 S = some X) : vV Γ tLw_otherwise (mQ Γ 1 6 0 (some (.int X.1)) X.2) S 0 0 0 [(0, .ref x0), (1, .int x1), (2, .int x2)] [] := by
  unfold fLw_otherwise at h
  refine v_aload_n (pc := 0) (show decode (tC tLw_otherwise) 0 = .ok (.aload_n 0, 1) by decide +kernel) 0 rfl rfl ?_
  refine v_iload_n (pc := 1) (show decode (tC tLw_otherwise) 1 = .ok (.iload_n 1, 1) by decide +kernel) 1 rfl rfl ?_
  refine v_iload_n (pc := 2) (show decode (tC tLw_otherwise) 2 = .ok (.iload_n 2, 1) by decide +kernel) 2 rfl rfl ?_
  obtain ⟨_, e2, h⟩ := ob h
  obtain ⟨k3, r4, S5, e1, ⟨hk, h⟩ | ⟨hk, h⟩⟩ := obC h
  · subst hk
    refine v_callR (pc := 3) (mc := 1) (ms := 6) (v := none) (y := yMp_otherwise) (θ' := tMp_otherwise) (rm := rMp_otherwise) (av := [.ref x0, .int x1, .int x2]) (st := []) (cMp_otherwise (l := gl Γ) hl e1) kMp_otherwise iMp_otherwise (iv_virt (y := yMp_otherwise) (θ' := tMp_otherwise) (kd := 0) (As := [.int x1, .int x2]) rfl (ckd_of e2) kMp_otherwise (gT_in 783 (by decide +kernel) rfl) nMp_otherwise lMp_otherwise mMp_otherwise rfl (show decode (tC tLw_otherwise) 3 = .ok (.invokevirtual 27, 3) by decide +kernel)) ⟨by rw [hR]; decide, by rw [hR]; decide, by rw [hR]; decide, by rw [hR]; decide⟩ (Nat.le_of_ble_eq_true rfl) ?_
    refine v_goto (pc := 6) 15 (show decode (tC tLw_otherwise) 6 = .ok (.goto 9, 3) by decide +kernel) (by decide) ?_
    refine v_iconst (pc := 15) (v := 0) (show decode (tC tLw_otherwise) 15 = .ok (.iconst 0, 1) by decide +kernel) (by decide) ?_
    obtain rfl := Option.some.inj h
    refine v_wide (ce2 := 1) (sl2 := 6) (Nat.le_of_ble_eq_true rfl) (Nat.le_of_ble_eq_true rfl) ?_
    exact v_iret (pc := 16) rfl (show decode (tC tLw_otherwise) 16 = .ok (.ireturn, 1) by decide +kernel)
  · by_cases c0 : k3 = 3
    · replace h := ite_t c0 h
      subst c0
      refine v_callC (pc := 3) (k := 3) hk (y := yMp_otherwise) (θ' := tMp_otherwise) (rm := rMp_otherwise) (av := [.ref x0, .int x1, .int x2]) (st := []) (cMp_otherwise (l := gl Γ) hl e1) kMp_otherwise iMp_otherwise (iv_virt (y := yMp_otherwise) (θ' := tMp_otherwise) (kd := 0) (As := [.int x1, .int x2]) rfl (ckd_of e2) kMp_otherwise (gT_in 783 (by decide +kernel) rfl) nMp_otherwise lMp_otherwise mMp_otherwise rfl (show decode (tC tLw_otherwise) 3 = .ok (.invokevirtual 27, 3) by decide +kernel)) ⟨by rw [hR]; decide, by rw [hR]; decide, by rw [hR]; decide, by rw [hR]; decide⟩ (Nat.le_of_ble_eq_true rfl) [] ⟨0, 6, 9, 21⟩ [⟨0, 6, 12, 15⟩] rfl (fun _ h => absurd h List.not_mem_nil) rfl (by decide) (gT_in 727 (by decide +kernel) rfl) (List.mem_of_getElem? (l := nC) (i := 2) rfl) (fun a6 => ?_)
      refine v_astore_n (pc := 9) [(3, .ref a6), (0, .ref x0), (1, .int x1), (2, .int x2)] (show decode (tC tLw_otherwise) 9 = .ok (.astore_n 3, 1) by decide +kernel) rfl (by decide) rfl ?_
      refine v_iconst (pc := 10) (v := 1) (show decode (tC tLw_otherwise) 10 = .ok (.iconst 1, 1) by decide +kernel) (by decide) ?_
      obtain rfl := Option.some.inj h
      refine v_wide (ce2 := 1) (sl2 := 6) (Nat.le_of_ble_eq_true rfl) (Nat.le_of_ble_eq_true rfl) ?_
      exact v_iret (pc := 11) rfl (show decode (tC tLw_otherwise) 11 = .ok (.ireturn, 1) by decide +kernel)
    · replace h := ite_f c0 h
      by_cases c1 : k3 = 2
      · replace h := ite_t c1 h
        subst c1
        refine v_callC (pc := 3) (k := 2) hk (y := yMp_otherwise) (θ' := tMp_otherwise) (rm := rMp_otherwise) (av := [.ref x0, .int x1, .int x2]) (st := []) (cMp_otherwise (l := gl Γ) hl e1) kMp_otherwise iMp_otherwise (iv_virt (y := yMp_otherwise) (θ' := tMp_otherwise) (kd := 0) (As := [.int x1, .int x2]) rfl (ckd_of e2) kMp_otherwise (gT_in 783 (by decide +kernel) rfl) nMp_otherwise lMp_otherwise mMp_otherwise rfl (show decode (tC tLw_otherwise) 3 = .ok (.invokevirtual 27, 3) by decide +kernel)) ⟨by rw [hR]; decide, by rw [hR]; decide, by rw [hR]; decide, by rw [hR]; decide⟩ (Nat.le_of_ble_eq_true rfl) [⟨0, 6, 9, 21⟩] ⟨0, 6, 12, 15⟩ [] rfl (List.forall_mem_cons.mpr ⟨⟨rfl, by decide, _, (gT_in 727 (by decide +kernel) rfl), List.mem_of_getElem? (l := nX) (i := 3) rfl⟩, (fun _ h => absurd h List.not_mem_nil)⟩) rfl (by decide) (gT_in 626 (by decide +kernel) rfl) (List.mem_of_getElem? (l := nC) (i := 1) rfl) (fun a7 => ?_)
        refine v_astore_n (pc := 12) [(3, .ref a7), (0, .ref x0), (1, .int x1), (2, .int x2)] (show decode (tC tLw_otherwise) 12 = .ok (.astore_n 3, 1) by decide +kernel) rfl (by decide) rfl ?_
        refine v_iconst (pc := 13) (v := 2) (show decode (tC tLw_otherwise) 13 = .ok (.iconst 2, 1) by decide +kernel) (by decide) ?_
        obtain rfl := Option.some.inj h
        refine v_wide (ce2 := 1) (sl2 := 6) (Nat.le_of_ble_eq_true rfl) (Nat.le_of_ble_eq_true rfl) ?_
        exact v_iret (pc := 14) rfl (show decode (tC tLw_otherwise) 14 = .ok (.ireturn, 1) by decide +kernel)
      · replace h := ite_f c1 h
        cases h
theorem cLw_otherwise {l : Launch} (hl : l.flags = pinnedFlags ++ [noTraceFlag]) {D : va_G} {dA : Nat → ClassId} {B : Nat} {x0 : Nat} {x1 : Int32} {x2 : Int32} {S : Sx} {X : Int32 × Sx} (h : fLw_otherwise x0 x1 x2 S = some X) : Mx l yLw_otherwise tLw_otherwise rLw_otherwise 1 6 D dA B S [.ref x0, .int x1, .int x2] 0 (some (.int X.1)) X.2 :=
  mx_of hl (by decide) rfl rfl (Nat.le_of_ble_eq_true rfl) (fun Γ e1 e2 e3 e4 e5 => by subst e1; subst e3; subst e4; subst e5; exact wLw_otherwise e2 hl x0 x1 x2 S h)
/-! MatchPipeLaw.action(LMatchPipe;[J)I -/
def yLw_action : MethodName := ⟨"MatchPipeLaw", "action", "(LMatchPipe;[J)I"⟩
def tLw_action : tM := (method_7_code, "MatchPipeLaw", 3, "action", some .int, [(0, 8, 11, 15)])
def rLw_action : Room := { frames := 9, cells := 1, slots := 6, locals := 172 }
theorem kLw_action : cOf yLw_action tLw_action ∈ gT := gT_in 789 (by decide +kernel) (by decide +kernel)
theorem iLw_action : Cond.initialized yLw_action.cls ∈ gT := gT_in 54 (by decide +kernel) rfl
theorem mLw_action : okM yLw_action 2 := ⟨by decide, by decide, by unfold nPar; decide +kernel⟩
theorem sLw_action : Cond.static yLw_action ∈ gT := gT_in 788 (by decide +kernel) rfl
def fLw_action (x0 : Nat) (x1 : Nat) (S : Sx) : Option (Int32 × Sx) :=
    (ckd S x0 0).bind fun _ =>
    bdC (fMp_action x0 S) (fun r4 S5 =>
    (qJ S5 x1 0 (Int32.toInt64 r4)).bind fun S6 =>
    some (0, S6))
    (fun k3 S5 =>
    if k3 = 2 then
    (some (1, S5))
    else  none)
set_option maxRecDepth 100000 in
set_option maxHeartbeats 4000000 in
theorem wLw_action {Γ : vG} (hR : gR Γ = rLw_action) (hl : (gl Γ).flags = pinnedFlags ++ [noTraceFlag]) (x0 : Nat) (x1 : Nat) (S : Sx) {X : Int32 × Sx} (h : fLw_action x0 x1 S = some X) : vV Γ tLw_action (mQ Γ 1 6 0 (some (.int X.1)) X.2) S 0 0 0 [(0, .ref x0), (1, .ref x1)] [] := by
  unfold fLw_action at h
  refine v_aload_n (pc := 0) (show decode (tC tLw_action) 0 = .ok (.aload_n 1, 1) by decide +kernel) 1 rfl rfl ?_
  refine v_iconst (pc := 1) (v := 0) (show decode (tC tLw_action) 1 = .ok (.iconst 0, 1) by decide +kernel) (by decide) ?_
  refine v_aload_n (pc := 2) (show decode (tC tLw_action) 2 = .ok (.aload_n 0, 1) by decide +kernel) 0 rfl rfl ?_
  obtain ⟨_, e2, h⟩ := ob h
  obtain ⟨k3, r4, S5, e1, ⟨hk, h⟩ | ⟨hk, h⟩⟩ := obC h
  · subst hk
    refine v_callR (pc := 3) (mc := 1) (ms := 6) (v := (some (.int r4))) (y := yMp_action) (θ' := tMp_action) (rm := rMp_action) (av := [.ref x0]) (st := [.int 0, .ref x1]) (cMp_action (l := gl Γ) hl e1) kMp_action iMp_action (iv_virt (y := yMp_action) (θ' := tMp_action) (kd := 0) (As := []) rfl (ckd_of e2) kMp_action (gT_in 790 (by decide +kernel) rfl) nMp_action lMp_action mMp_action rfl (show decode (tC tLw_action) 3 = .ok (.invokevirtual 31, 3) by decide +kernel)) ⟨by rw [hR]; decide, by rw [hR]; decide, by rw [hR]; decide, by rw [hR]; decide⟩ (Nat.le_of_ble_eq_true rfl) ?_
    refine v_i2l (pc := 6) (show decode (tC tLw_action) 6 = .ok (.i2l, 1) by decide +kernel) ?_
    obtain ⟨S6, e7, h⟩ := ob h
    refine v_last (pc := 7) e7 (show decode (tC tLw_action) 7 = .ok (.lastore, 1) by decide +kernel) ?_
    refine v_goto (pc := 8) 14 (show decode (tC tLw_action) 8 = .ok (.goto 6, 3) by decide +kernel) (by decide) ?_
    refine v_iconst (pc := 14) (v := 0) (show decode (tC tLw_action) 14 = .ok (.iconst 0, 1) by decide +kernel) (by decide) ?_
    obtain rfl := Option.some.inj h
    refine v_wide (ce2 := 1) (sl2 := 6) (Nat.le_of_ble_eq_true rfl) (Nat.le_of_ble_eq_true rfl) ?_
    exact v_iret (pc := 15) rfl (show decode (tC tLw_action) 15 = .ok (.ireturn, 1) by decide +kernel)
  · by_cases c0 : k3 = 2
    · replace h := ite_t c0 h
      subst c0
      refine v_callC (pc := 3) (k := 2) hk (y := yMp_action) (θ' := tMp_action) (rm := rMp_action) (av := [.ref x0]) (st := [.int 0, .ref x1]) (cMp_action (l := gl Γ) hl e1) kMp_action iMp_action (iv_virt (y := yMp_action) (θ' := tMp_action) (kd := 0) (As := []) rfl (ckd_of e2) kMp_action (gT_in 790 (by decide +kernel) rfl) nMp_action lMp_action mMp_action rfl (show decode (tC tLw_action) 3 = .ok (.invokevirtual 31, 3) by decide +kernel)) ⟨by rw [hR]; decide, by rw [hR]; decide, by rw [hR]; decide, by rw [hR]; decide⟩ (Nat.le_of_ble_eq_true rfl) [] ⟨0, 8, 11, 15⟩ [] rfl (fun _ h => absurd h List.not_mem_nil) rfl (by decide) (gT_in 626 (by decide +kernel) rfl) (List.mem_of_getElem? (l := nC) (i := 1) rfl) (fun a8 => ?_)
      refine v_astore_n (pc := 11) [(2, .ref a8), (0, .ref x0), (1, .ref x1)] (show decode (tC tLw_action) 11 = .ok (.astore_n 2, 1) by decide +kernel) rfl (by decide) rfl ?_
      refine v_iconst (pc := 12) (v := 1) (show decode (tC tLw_action) 12 = .ok (.iconst 1, 1) by decide +kernel) (by decide) ?_
      obtain rfl := Option.some.inj h
      refine v_wide (ce2 := 1) (sl2 := 6) (Nat.le_of_ble_eq_true rfl) (Nat.le_of_ble_eq_true rfl) ?_
      exact v_iret (pc := 13) rfl (show decode (tC tLw_action) 13 = .ok (.ireturn, 1) by decide +kernel)
    · replace h := ite_f c0 h
      cases h
theorem cLw_action {l : Launch} (hl : l.flags = pinnedFlags ++ [noTraceFlag]) {D : va_G} {dA : Nat → ClassId} {B : Nat} {x0 : Nat} {x1 : Nat} {S : Sx} {X : Int32 × Sx} (h : fLw_action x0 x1 S = some X) : Mx l yLw_action tLw_action rLw_action 1 6 D dA B S [.ref x0, .ref x1] 0 (some (.int X.1)) X.2 :=
  mx_of hl (by decide) rfl rfl (Nat.le_of_ble_eq_true rfl) (fun Γ e1 e2 e3 e4 e5 => by subst e1; subst e3; subst e4; subst e5; exact wLw_action e2 hl x0 x1 S h)
/-! MatchPipeLaw.doing(LMatchPipe;IIIII)I -/
def yLw_doing : MethodName := ⟨"MatchPipeLaw", "doing", "(LMatchPipe;IIIII)I"⟩
def tLw_doing : tM := (method_8_code, "MatchPipeLaw", 7, "doing", some .int, [(0, 11, 14, 21), (0, 11, 18, 13), (0, 11, 22, 15)])
def rLw_doing : Room := { frames := 9, cells := 1, slots := 6, locals := 178 }
theorem kLw_doing : cOf yLw_doing tLw_doing ∈ gT := gT_in 796 (by decide +kernel) (by decide +kernel)
theorem iLw_doing : Cond.initialized yLw_doing.cls ∈ gT := gT_in 54 (by decide +kernel) rfl
theorem mLw_doing : okM yLw_doing 6 := ⟨by decide, by decide, by unfold nPar; decide +kernel⟩
theorem sLw_doing : Cond.static yLw_doing ∈ gT := gT_in 795 (by decide +kernel) rfl
def fLw_doing (x0 : Nat) (x1 : Int32) (x2 : Int32) (x3 : Int32) (x4 : Int32) (x5 : Int32) (S : Sx) : Option (Int32 × Sx) :=
    (ckd S x0 0).bind fun _ =>
    bdC (fMp_doing x0 x1 x2 x3 x4 x5 S) (fun r4 S5 =>
    some (0, S5))
    (fun k3 S5 =>
    if k3 = 3 then
    (some (1, S5))
    else if k3 = 1 then
    (some (2, S5))
    else if k3 = 2 then
    (some (3, S5))
    else  none)
set_option maxRecDepth 100000 in
set_option maxHeartbeats 4000000 in
theorem wLw_doing {Γ : vG} (hR : gR Γ = rLw_doing) (hl : (gl Γ).flags = pinnedFlags ++ [noTraceFlag]) (x0 : Nat) (x1 : Int32) (x2 : Int32) (x3 : Int32) (x4 : Int32) (x5 : Int32) (S : Sx) {X : Int32 × Sx} (h : fLw_doing x0 x1 x2 x3 x4 x5 S = some X) : vV Γ tLw_doing (mQ Γ 1 6 0 (some (.int X.1)) X.2) S 0 0 0 [(0, .ref x0), (1, .int x1), (2, .int x2), (3, .int x3), (4, .int x4), (5, .int x5)] [] := by
  unfold fLw_doing at h
  refine v_aload_n (pc := 0) (show decode (tC tLw_doing) 0 = .ok (.aload_n 0, 1) by decide +kernel) 0 rfl rfl ?_
  refine v_iload_n (pc := 1) (show decode (tC tLw_doing) 1 = .ok (.iload_n 1, 1) by decide +kernel) 1 rfl rfl ?_
  refine v_iload_n (pc := 2) (show decode (tC tLw_doing) 2 = .ok (.iload_n 2, 1) by decide +kernel) 2 rfl rfl ?_
  refine v_iload_n (pc := 3) (show decode (tC tLw_doing) 3 = .ok (.iload_n 3, 1) by decide +kernel) 3 rfl rfl ?_
  refine v_iload (pc := 4) (show decode (tC tLw_doing) 4 = .ok (.iload 4, 2) by decide +kernel) 4 rfl ?_
  refine v_iload (pc := 6) (show decode (tC tLw_doing) 6 = .ok (.iload 5, 2) by decide +kernel) 5 rfl ?_
  obtain ⟨_, e2, h⟩ := ob h
  obtain ⟨k3, r4, S5, e1, ⟨hk, h⟩ | ⟨hk, h⟩⟩ := obC h
  · subst hk
    refine v_callR (pc := 8) (mc := 1) (ms := 6) (v := none) (y := yMp_doing) (θ' := tMp_doing) (rm := rMp_doing) (av := [.ref x0, .int x1, .int x2, .int x3, .int x4, .int x5]) (st := []) (cMp_doing (l := gl Γ) hl e1) kMp_doing iMp_doing (iv_virt (y := yMp_doing) (θ' := tMp_doing) (kd := 0) (As := [.int x1, .int x2, .int x3, .int x4, .int x5]) rfl (ckd_of e2) kMp_doing (gT_in 797 (by decide +kernel) rfl) nMp_doing lMp_doing mMp_doing rfl (show decode (tC tLw_doing) 8 = .ok (.invokevirtual 35, 3) by decide +kernel)) ⟨by rw [hR]; decide, by rw [hR]; decide, by rw [hR]; decide, by rw [hR]; decide⟩ (Nat.le_of_ble_eq_true rfl) ?_
    refine v_goto (pc := 11) 26 (show decode (tC tLw_doing) 11 = .ok (.goto 15, 3) by decide +kernel) (by decide) ?_
    refine v_iconst (pc := 26) (v := 0) (show decode (tC tLw_doing) 26 = .ok (.iconst 0, 1) by decide +kernel) (by decide) ?_
    obtain rfl := Option.some.inj h
    refine v_wide (ce2 := 1) (sl2 := 6) (Nat.le_of_ble_eq_true rfl) (Nat.le_of_ble_eq_true rfl) ?_
    exact v_iret (pc := 27) rfl (show decode (tC tLw_doing) 27 = .ok (.ireturn, 1) by decide +kernel)
  · by_cases c0 : k3 = 3
    · replace h := ite_t c0 h
      subst c0
      refine v_callC (pc := 8) (k := 3) hk (y := yMp_doing) (θ' := tMp_doing) (rm := rMp_doing) (av := [.ref x0, .int x1, .int x2, .int x3, .int x4, .int x5]) (st := []) (cMp_doing (l := gl Γ) hl e1) kMp_doing iMp_doing (iv_virt (y := yMp_doing) (θ' := tMp_doing) (kd := 0) (As := [.int x1, .int x2, .int x3, .int x4, .int x5]) rfl (ckd_of e2) kMp_doing (gT_in 797 (by decide +kernel) rfl) nMp_doing lMp_doing mMp_doing rfl (show decode (tC tLw_doing) 8 = .ok (.invokevirtual 35, 3) by decide +kernel)) ⟨by rw [hR]; decide, by rw [hR]; decide, by rw [hR]; decide, by rw [hR]; decide⟩ (Nat.le_of_ble_eq_true rfl) [] ⟨0, 11, 14, 21⟩ [⟨0, 11, 18, 13⟩, ⟨0, 11, 22, 15⟩] rfl (fun _ h => absurd h List.not_mem_nil) rfl (by decide) (gT_in 727 (by decide +kernel) rfl) (List.mem_of_getElem? (l := nC) (i := 2) rfl) (fun a6 => ?_)
      refine v_astore (pc := 14) [(6, .ref a6), (0, .ref x0), (1, .int x1), (2, .int x2), (3, .int x3), (4, .int x4), (5, .int x5)] (show decode (tC tLw_doing) 14 = .ok (.astore 6, 2) by decide +kernel) (by decide) rfl ?_
      refine v_iconst (pc := 16) (v := 1) (show decode (tC tLw_doing) 16 = .ok (.iconst 1, 1) by decide +kernel) (by decide) ?_
      obtain rfl := Option.some.inj h
      refine v_wide (ce2 := 1) (sl2 := 6) (Nat.le_of_ble_eq_true rfl) (Nat.le_of_ble_eq_true rfl) ?_
      exact v_iret (pc := 17) rfl (show decode (tC tLw_doing) 17 = .ok (.ireturn, 1) by decide +kernel)
    · replace h := ite_f c0 h
      by_cases c1 : k3 = 1
      · replace h := ite_t c1 h
        subst c1
        refine v_callC (pc := 8) (k := 1) hk (y := yMp_doing) (θ' := tMp_doing) (rm := rMp_doing) (av := [.ref x0, .int x1, .int x2, .int x3, .int x4, .int x5]) (st := []) (cMp_doing (l := gl Γ) hl e1) kMp_doing iMp_doing (iv_virt (y := yMp_doing) (θ' := tMp_doing) (kd := 0) (As := [.int x1, .int x2, .int x3, .int x4, .int x5]) rfl (ckd_of e2) kMp_doing (gT_in 797 (by decide +kernel) rfl) nMp_doing lMp_doing mMp_doing rfl (show decode (tC tLw_doing) 8 = .ok (.invokevirtual 35, 3) by decide +kernel)) ⟨by rw [hR]; decide, by rw [hR]; decide, by rw [hR]; decide, by rw [hR]; decide⟩ (Nat.le_of_ble_eq_true rfl) [⟨0, 11, 14, 21⟩] ⟨0, 11, 18, 13⟩ [⟨0, 11, 22, 15⟩] rfl (List.forall_mem_cons.mpr ⟨⟨rfl, by decide, _, (gT_in 727 (by decide +kernel) rfl), List.mem_of_getElem? (l := nX) (i := 1) rfl⟩, (fun _ h => absurd h List.not_mem_nil)⟩) rfl (by decide) (gT_in 625 (by decide +kernel) rfl) (List.mem_of_getElem? (l := nC) (i := 0) rfl) (fun a7 => ?_)
        refine v_astore (pc := 18) [(6, .ref a7), (0, .ref x0), (1, .int x1), (2, .int x2), (3, .int x3), (4, .int x4), (5, .int x5)] (show decode (tC tLw_doing) 18 = .ok (.astore 6, 2) by decide +kernel) (by decide) rfl ?_
        refine v_iconst (pc := 20) (v := 2) (show decode (tC tLw_doing) 20 = .ok (.iconst 2, 1) by decide +kernel) (by decide) ?_
        obtain rfl := Option.some.inj h
        refine v_wide (ce2 := 1) (sl2 := 6) (Nat.le_of_ble_eq_true rfl) (Nat.le_of_ble_eq_true rfl) ?_
        exact v_iret (pc := 21) rfl (show decode (tC tLw_doing) 21 = .ok (.ireturn, 1) by decide +kernel)
      · replace h := ite_f c1 h
        by_cases c2 : k3 = 2
        · replace h := ite_t c2 h
          subst c2
          refine v_callC (pc := 8) (k := 2) hk (y := yMp_doing) (θ' := tMp_doing) (rm := rMp_doing) (av := [.ref x0, .int x1, .int x2, .int x3, .int x4, .int x5]) (st := []) (cMp_doing (l := gl Γ) hl e1) kMp_doing iMp_doing (iv_virt (y := yMp_doing) (θ' := tMp_doing) (kd := 0) (As := [.int x1, .int x2, .int x3, .int x4, .int x5]) rfl (ckd_of e2) kMp_doing (gT_in 797 (by decide +kernel) rfl) nMp_doing lMp_doing mMp_doing rfl (show decode (tC tLw_doing) 8 = .ok (.invokevirtual 35, 3) by decide +kernel)) ⟨by rw [hR]; decide, by rw [hR]; decide, by rw [hR]; decide, by rw [hR]; decide⟩ (Nat.le_of_ble_eq_true rfl) [⟨0, 11, 14, 21⟩, ⟨0, 11, 18, 13⟩] ⟨0, 11, 22, 15⟩ [] rfl (List.forall_mem_cons.mpr ⟨⟨rfl, by decide, _, (gT_in 727 (by decide +kernel) rfl), List.mem_of_getElem? (l := nX) (i := 3) rfl⟩, (List.forall_mem_cons.mpr ⟨⟨rfl, by decide, _, (gT_in 625 (by decide +kernel) rfl), List.mem_of_getElem? (l := nX) (i := 2) rfl⟩, (fun _ h => absurd h List.not_mem_nil)⟩)⟩) rfl (by decide) (gT_in 626 (by decide +kernel) rfl) (List.mem_of_getElem? (l := nC) (i := 1) rfl) (fun a8 => ?_)
          refine v_astore (pc := 22) [(6, .ref a8), (0, .ref x0), (1, .int x1), (2, .int x2), (3, .int x3), (4, .int x4), (5, .int x5)] (show decode (tC tLw_doing) 22 = .ok (.astore 6, 2) by decide +kernel) (by decide) rfl ?_
          refine v_iconst (pc := 24) (v := 3) (show decode (tC tLw_doing) 24 = .ok (.iconst 3, 1) by decide +kernel) (by decide) ?_
          obtain rfl := Option.some.inj h
          refine v_wide (ce2 := 1) (sl2 := 6) (Nat.le_of_ble_eq_true rfl) (Nat.le_of_ble_eq_true rfl) ?_
          exact v_iret (pc := 25) rfl (show decode (tC tLw_doing) 25 = .ok (.ireturn, 1) by decide +kernel)
        · replace h := ite_f c2 h
          cases h
theorem cLw_doing {l : Launch} (hl : l.flags = pinnedFlags ++ [noTraceFlag]) {D : va_G} {dA : Nat → ClassId} {B : Nat} {x0 : Nat} {x1 : Int32} {x2 : Int32} {x3 : Int32} {x4 : Int32} {x5 : Int32} {S : Sx} {X : Int32 × Sx} (h : fLw_doing x0 x1 x2 x3 x4 x5 S = some X) : Mx l yLw_doing tLw_doing rLw_doing 1 6 D dA B S [.ref x0, .int x1, .int x2, .int x3, .int x4, .int x5] 0 (some (.int X.1)) X.2 :=
  mx_of hl (by decide) rfl rfl (Nat.le_of_ble_eq_true rfl) (fun Γ e1 e2 e3 e4 e5 => by subst e1; subst e3; subst e4; subst e5; exact wLw_doing e2 hl x0 x1 x2 x3 x4 x5 S h)
/-! MatchPipeLaw.table(LMatchPipe;IIIII[J)I -/
def yLw_table : MethodName := ⟨"MatchPipeLaw", "table", "(LMatchPipe;IIIII[J)I"⟩
def tLw_table : tM := (method_9_code, "MatchPipeLaw", 8, "table", some .int, [(0, 16, 19, 21), (0, 16, 23, 13), (0, 16, 27, 15)])
def rLw_table : Room := { frames := 9, cells := 1, slots := 6, locals := 178 }
theorem kLw_table : cOf yLw_table tLw_table ∈ gT := gT_in 821 (by decide +kernel) (by decide +kernel)
theorem iLw_table : Cond.initialized yLw_table.cls ∈ gT := gT_in 54 (by decide +kernel) rfl
theorem mLw_table : okM yLw_table 7 := ⟨by decide, by decide, by unfold nPar; decide +kernel⟩
theorem sLw_table : Cond.static yLw_table ∈ gT := gT_in 820 (by decide +kernel) rfl
def fLw_table (x0 : Nat) (x1 : Int32) (x2 : Int32) (x3 : Int32) (x4 : Int32) (x5 : Int32) (x6 : Nat) (S : Sx) : Option (Int32 × Sx) :=
    (ckd S x0 0).bind fun _ =>
    bdC (fMp_table x0 x1 x2 x3 x4 x5 S) (fun r4 S5 =>
    (qJ S5 x6 0 (Int32.toInt64 r4)).bind fun S6 =>
    some (0, S6))
    (fun k3 S5 =>
    if k3 = 3 then
    (some (1, S5))
    else if k3 = 1 then
    (some (2, S5))
    else if k3 = 2 then
    (some (3, S5))
    else  none)
set_option maxRecDepth 100000 in
set_option maxHeartbeats 4000000 in
theorem wLw_table {Γ : vG} (hR : gR Γ = rLw_table) (hl : (gl Γ).flags = pinnedFlags ++ [noTraceFlag]) (x0 : Nat) (x1 : Int32) (x2 : Int32) (x3 : Int32) (x4 : Int32) (x5 : Int32) (x6 : Nat) (S : Sx) {X : Int32 × Sx} (h : fLw_table x0 x1 x2 x3 x4 x5 x6 S = some X) : vV Γ tLw_table (mQ Γ 1 6 0 (some (.int X.1)) X.2) S 0 0 0 [(0, .ref x0), (1, .int x1), (2, .int x2), (3, .int x3), (4, .int x4), (5, .int x5), (6, .ref x6)] [] := by
  unfold fLw_table at h
  refine v_aload (pc := 0) (show decode (tC tLw_table) 0 = .ok (.aload 6, 2) by decide +kernel) 6 rfl ?_
  refine v_iconst (pc := 2) (v := 0) (show decode (tC tLw_table) 2 = .ok (.iconst 0, 1) by decide +kernel) (by decide) ?_
  refine v_aload_n (pc := 3) (show decode (tC tLw_table) 3 = .ok (.aload_n 0, 1) by decide +kernel) 0 rfl rfl ?_
  refine v_iload_n (pc := 4) (show decode (tC tLw_table) 4 = .ok (.iload_n 1, 1) by decide +kernel) 1 rfl rfl ?_
  refine v_iload_n (pc := 5) (show decode (tC tLw_table) 5 = .ok (.iload_n 2, 1) by decide +kernel) 2 rfl rfl ?_
  refine v_iload_n (pc := 6) (show decode (tC tLw_table) 6 = .ok (.iload_n 3, 1) by decide +kernel) 3 rfl rfl ?_
  refine v_iload (pc := 7) (show decode (tC tLw_table) 7 = .ok (.iload 4, 2) by decide +kernel) 4 rfl ?_
  refine v_iload (pc := 9) (show decode (tC tLw_table) 9 = .ok (.iload 5, 2) by decide +kernel) 5 rfl ?_
  obtain ⟨_, e2, h⟩ := ob h
  obtain ⟨k3, r4, S5, e1, ⟨hk, h⟩ | ⟨hk, h⟩⟩ := obC h
  · subst hk
    refine v_callR (pc := 11) (mc := 1) (ms := 6) (v := (some (.int r4))) (y := yMp_table) (θ' := tMp_table) (rm := rMp_table) (av := [.ref x0, .int x1, .int x2, .int x3, .int x4, .int x5]) (st := [.int 0, .ref x6]) (cMp_table (l := gl Γ) hl e1) kMp_table iMp_table (iv_virt (y := yMp_table) (θ' := tMp_table) (kd := 0) (As := [.int x1, .int x2, .int x3, .int x4, .int x5]) rfl (ckd_of e2) kMp_table (gT_in 822 (by decide +kernel) rfl) nMp_table lMp_table mMp_table rfl (show decode (tC tLw_table) 11 = .ok (.invokevirtual 39, 3) by decide +kernel)) ⟨by rw [hR]; decide, by rw [hR]; decide, by rw [hR]; decide, by rw [hR]; decide⟩ (Nat.le_of_ble_eq_true rfl) ?_
    refine v_i2l (pc := 14) (show decode (tC tLw_table) 14 = .ok (.i2l, 1) by decide +kernel) ?_
    obtain ⟨S6, e7, h⟩ := ob h
    refine v_last (pc := 15) e7 (show decode (tC tLw_table) 15 = .ok (.lastore, 1) by decide +kernel) ?_
    refine v_goto (pc := 16) 31 (show decode (tC tLw_table) 16 = .ok (.goto 15, 3) by decide +kernel) (by decide) ?_
    refine v_iconst (pc := 31) (v := 0) (show decode (tC tLw_table) 31 = .ok (.iconst 0, 1) by decide +kernel) (by decide) ?_
    obtain rfl := Option.some.inj h
    refine v_wide (ce2 := 1) (sl2 := 6) (Nat.le_of_ble_eq_true rfl) (Nat.le_of_ble_eq_true rfl) ?_
    exact v_iret (pc := 32) rfl (show decode (tC tLw_table) 32 = .ok (.ireturn, 1) by decide +kernel)
  · by_cases c0 : k3 = 3
    · replace h := ite_t c0 h
      subst c0
      refine v_callC (pc := 11) (k := 3) hk (y := yMp_table) (θ' := tMp_table) (rm := rMp_table) (av := [.ref x0, .int x1, .int x2, .int x3, .int x4, .int x5]) (st := [.int 0, .ref x6]) (cMp_table (l := gl Γ) hl e1) kMp_table iMp_table (iv_virt (y := yMp_table) (θ' := tMp_table) (kd := 0) (As := [.int x1, .int x2, .int x3, .int x4, .int x5]) rfl (ckd_of e2) kMp_table (gT_in 822 (by decide +kernel) rfl) nMp_table lMp_table mMp_table rfl (show decode (tC tLw_table) 11 = .ok (.invokevirtual 39, 3) by decide +kernel)) ⟨by rw [hR]; decide, by rw [hR]; decide, by rw [hR]; decide, by rw [hR]; decide⟩ (Nat.le_of_ble_eq_true rfl) [] ⟨0, 16, 19, 21⟩ [⟨0, 16, 23, 13⟩, ⟨0, 16, 27, 15⟩] rfl (fun _ h => absurd h List.not_mem_nil) rfl (by decide) (gT_in 727 (by decide +kernel) rfl) (List.mem_of_getElem? (l := nC) (i := 2) rfl) (fun a8 => ?_)
      refine v_astore (pc := 19) [(7, .ref a8), (0, .ref x0), (1, .int x1), (2, .int x2), (3, .int x3), (4, .int x4), (5, .int x5), (6, .ref x6)] (show decode (tC tLw_table) 19 = .ok (.astore 7, 2) by decide +kernel) (by decide) rfl ?_
      refine v_iconst (pc := 21) (v := 1) (show decode (tC tLw_table) 21 = .ok (.iconst 1, 1) by decide +kernel) (by decide) ?_
      obtain rfl := Option.some.inj h
      refine v_wide (ce2 := 1) (sl2 := 6) (Nat.le_of_ble_eq_true rfl) (Nat.le_of_ble_eq_true rfl) ?_
      exact v_iret (pc := 22) rfl (show decode (tC tLw_table) 22 = .ok (.ireturn, 1) by decide +kernel)
    · replace h := ite_f c0 h
      by_cases c1 : k3 = 1
      · replace h := ite_t c1 h
        subst c1
        refine v_callC (pc := 11) (k := 1) hk (y := yMp_table) (θ' := tMp_table) (rm := rMp_table) (av := [.ref x0, .int x1, .int x2, .int x3, .int x4, .int x5]) (st := [.int 0, .ref x6]) (cMp_table (l := gl Γ) hl e1) kMp_table iMp_table (iv_virt (y := yMp_table) (θ' := tMp_table) (kd := 0) (As := [.int x1, .int x2, .int x3, .int x4, .int x5]) rfl (ckd_of e2) kMp_table (gT_in 822 (by decide +kernel) rfl) nMp_table lMp_table mMp_table rfl (show decode (tC tLw_table) 11 = .ok (.invokevirtual 39, 3) by decide +kernel)) ⟨by rw [hR]; decide, by rw [hR]; decide, by rw [hR]; decide, by rw [hR]; decide⟩ (Nat.le_of_ble_eq_true rfl) [⟨0, 16, 19, 21⟩] ⟨0, 16, 23, 13⟩ [⟨0, 16, 27, 15⟩] rfl (List.forall_mem_cons.mpr ⟨⟨rfl, by decide, _, (gT_in 727 (by decide +kernel) rfl), List.mem_of_getElem? (l := nX) (i := 1) rfl⟩, (fun _ h => absurd h List.not_mem_nil)⟩) rfl (by decide) (gT_in 625 (by decide +kernel) rfl) (List.mem_of_getElem? (l := nC) (i := 0) rfl) (fun a9 => ?_)
        refine v_astore (pc := 23) [(7, .ref a9), (0, .ref x0), (1, .int x1), (2, .int x2), (3, .int x3), (4, .int x4), (5, .int x5), (6, .ref x6)] (show decode (tC tLw_table) 23 = .ok (.astore 7, 2) by decide +kernel) (by decide) rfl ?_
        refine v_iconst (pc := 25) (v := 2) (show decode (tC tLw_table) 25 = .ok (.iconst 2, 1) by decide +kernel) (by decide) ?_
        obtain rfl := Option.some.inj h
        refine v_wide (ce2 := 1) (sl2 := 6) (Nat.le_of_ble_eq_true rfl) (Nat.le_of_ble_eq_true rfl) ?_
        exact v_iret (pc := 26) rfl (show decode (tC tLw_table) 26 = .ok (.ireturn, 1) by decide +kernel)
      · replace h := ite_f c1 h
        by_cases c2 : k3 = 2
        · replace h := ite_t c2 h
          subst c2
          refine v_callC (pc := 11) (k := 2) hk (y := yMp_table) (θ' := tMp_table) (rm := rMp_table) (av := [.ref x0, .int x1, .int x2, .int x3, .int x4, .int x5]) (st := [.int 0, .ref x6]) (cMp_table (l := gl Γ) hl e1) kMp_table iMp_table (iv_virt (y := yMp_table) (θ' := tMp_table) (kd := 0) (As := [.int x1, .int x2, .int x3, .int x4, .int x5]) rfl (ckd_of e2) kMp_table (gT_in 822 (by decide +kernel) rfl) nMp_table lMp_table mMp_table rfl (show decode (tC tLw_table) 11 = .ok (.invokevirtual 39, 3) by decide +kernel)) ⟨by rw [hR]; decide, by rw [hR]; decide, by rw [hR]; decide, by rw [hR]; decide⟩ (Nat.le_of_ble_eq_true rfl) [⟨0, 16, 19, 21⟩, ⟨0, 16, 23, 13⟩] ⟨0, 16, 27, 15⟩ [] rfl (List.forall_mem_cons.mpr ⟨⟨rfl, by decide, _, (gT_in 727 (by decide +kernel) rfl), List.mem_of_getElem? (l := nX) (i := 3) rfl⟩, (List.forall_mem_cons.mpr ⟨⟨rfl, by decide, _, (gT_in 625 (by decide +kernel) rfl), List.mem_of_getElem? (l := nX) (i := 2) rfl⟩, (fun _ h => absurd h List.not_mem_nil)⟩)⟩) rfl (by decide) (gT_in 626 (by decide +kernel) rfl) (List.mem_of_getElem? (l := nC) (i := 1) rfl) (fun a10 => ?_)
          refine v_astore (pc := 27) [(7, .ref a10), (0, .ref x0), (1, .int x1), (2, .int x2), (3, .int x3), (4, .int x4), (5, .int x5), (6, .ref x6)] (show decode (tC tLw_table) 27 = .ok (.astore 7, 2) by decide +kernel) (by decide) rfl ?_
          refine v_iconst (pc := 29) (v := 3) (show decode (tC tLw_table) 29 = .ok (.iconst 3, 1) by decide +kernel) (by decide) ?_
          obtain rfl := Option.some.inj h
          refine v_wide (ce2 := 1) (sl2 := 6) (Nat.le_of_ble_eq_true rfl) (Nat.le_of_ble_eq_true rfl) ?_
          exact v_iret (pc := 30) rfl (show decode (tC tLw_table) 30 = .ok (.ireturn, 1) by decide +kernel)
        · replace h := ite_f c2 h
          cases h
theorem cLw_table {l : Launch} (hl : l.flags = pinnedFlags ++ [noTraceFlag]) {D : va_G} {dA : Nat → ClassId} {B : Nat} {x0 : Nat} {x1 : Int32} {x2 : Int32} {x3 : Int32} {x4 : Int32} {x5 : Int32} {x6 : Nat} {S : Sx} {X : Int32 × Sx} (h : fLw_table x0 x1 x2 x3 x4 x5 x6 S = some X) : Mx l yLw_table tLw_table rLw_table 1 6 D dA B S [.ref x0, .int x1, .int x2, .int x3, .int x4, .int x5, .ref x6] 0 (some (.int X.1)) X.2 :=
  mx_of hl (by decide) rfl rfl (Nat.le_of_ble_eq_true rfl) (fun Γ e1 e2 e3 e4 e5 => by subst e1; subst e3; subst e4; subst e5; exact wLw_table e2 hl x0 x1 x2 x3 x4 x5 x6 S h)
/-! MatchPipeLaw.apply(LMatchPipe;I[J)I -/
def yLw_apply : MethodName := ⟨"MatchPipeLaw", "apply", "(LMatchPipe;I[J)I"⟩
def tLw_apply : tM := (method_10_code, "MatchPipeLaw", 4, "apply", some .int, [(0, 9, 12, 21), (0, 9, 15, 15)])
def rLw_apply : Room := { frames := 9, cells := 1, slots := 6, locals := 173 }
theorem kLw_apply : cOf yLw_apply tLw_apply ∈ gT := gT_in 853 (by decide +kernel) (by decide +kernel)
theorem iLw_apply : Cond.initialized yLw_apply.cls ∈ gT := gT_in 54 (by decide +kernel) rfl
theorem mLw_apply : okM yLw_apply 3 := ⟨by decide, by decide, by unfold nPar; decide +kernel⟩
theorem sLw_apply : Cond.static yLw_apply ∈ gT := gT_in 852 (by decide +kernel) rfl
def fLw_apply (x0 : Nat) (x1 : Int32) (x2 : Nat) (S : Sx) : Option (Int32 × Sx) :=
    (ckd S x0 0).bind fun _ =>
    bdC (fMp_apply x0 x1 S) (fun r4 S5 =>
    (qJ S5 x2 0 (Int32.toInt64 r4)).bind fun S6 =>
    some (0, S6))
    (fun k3 S5 =>
    if k3 = 3 then
    (some (1, S5))
    else if k3 = 2 then
    (some (2, S5))
    else  none)
set_option maxRecDepth 100000 in
set_option maxHeartbeats 4000000 in
theorem wLw_apply {Γ : vG} (hR : gR Γ = rLw_apply) (hl : (gl Γ).flags = pinnedFlags ++ [noTraceFlag]) (x0 : Nat) (x1 : Int32) (x2 : Nat) (S : Sx) {X : Int32 × Sx} (h : fLw_apply x0 x1 x2 S = some X) : vV Γ tLw_apply (mQ Γ 1 6 0 (some (.int X.1)) X.2) S 0 0 0 [(0, .ref x0), (1, .int x1), (2, .ref x2)] [] := by
  unfold fLw_apply at h
  refine v_aload_n (pc := 0) (show decode (tC tLw_apply) 0 = .ok (.aload_n 2, 1) by decide +kernel) 2 rfl rfl ?_
  refine v_iconst (pc := 1) (v := 0) (show decode (tC tLw_apply) 1 = .ok (.iconst 0, 1) by decide +kernel) (by decide) ?_
  refine v_aload_n (pc := 2) (show decode (tC tLw_apply) 2 = .ok (.aload_n 0, 1) by decide +kernel) 0 rfl rfl ?_
  refine v_iload_n (pc := 3) (show decode (tC tLw_apply) 3 = .ok (.iload_n 1, 1) by decide +kernel) 1 rfl rfl ?_
  obtain ⟨_, e2, h⟩ := ob h
  obtain ⟨k3, r4, S5, e1, ⟨hk, h⟩ | ⟨hk, h⟩⟩ := obC h
  · subst hk
    refine v_callR (pc := 4) (mc := 1) (ms := 6) (v := (some (.int r4))) (y := yMp_apply) (θ' := tMp_apply) (rm := rMp_apply) (av := [.ref x0, .int x1]) (st := [.int 0, .ref x2]) (cMp_apply (l := gl Γ) hl e1) kMp_apply iMp_apply (iv_virt (y := yMp_apply) (θ' := tMp_apply) (kd := 0) (As := [.int x1]) rfl (ckd_of e2) kMp_apply (gT_in 854 (by decide +kernel) rfl) nMp_apply lMp_apply mMp_apply rfl (show decode (tC tLw_apply) 4 = .ok (.invokevirtual 42, 3) by decide +kernel)) ⟨by rw [hR]; decide, by rw [hR]; decide, by rw [hR]; decide, by rw [hR]; decide⟩ (Nat.le_of_ble_eq_true rfl) ?_
    refine v_i2l (pc := 7) (show decode (tC tLw_apply) 7 = .ok (.i2l, 1) by decide +kernel) ?_
    obtain ⟨S6, e7, h⟩ := ob h
    refine v_last (pc := 8) e7 (show decode (tC tLw_apply) 8 = .ok (.lastore, 1) by decide +kernel) ?_
    refine v_goto (pc := 9) 18 (show decode (tC tLw_apply) 9 = .ok (.goto 9, 3) by decide +kernel) (by decide) ?_
    refine v_iconst (pc := 18) (v := 0) (show decode (tC tLw_apply) 18 = .ok (.iconst 0, 1) by decide +kernel) (by decide) ?_
    obtain rfl := Option.some.inj h
    refine v_wide (ce2 := 1) (sl2 := 6) (Nat.le_of_ble_eq_true rfl) (Nat.le_of_ble_eq_true rfl) ?_
    exact v_iret (pc := 19) rfl (show decode (tC tLw_apply) 19 = .ok (.ireturn, 1) by decide +kernel)
  · by_cases c0 : k3 = 3
    · replace h := ite_t c0 h
      subst c0
      refine v_callC (pc := 4) (k := 3) hk (y := yMp_apply) (θ' := tMp_apply) (rm := rMp_apply) (av := [.ref x0, .int x1]) (st := [.int 0, .ref x2]) (cMp_apply (l := gl Γ) hl e1) kMp_apply iMp_apply (iv_virt (y := yMp_apply) (θ' := tMp_apply) (kd := 0) (As := [.int x1]) rfl (ckd_of e2) kMp_apply (gT_in 854 (by decide +kernel) rfl) nMp_apply lMp_apply mMp_apply rfl (show decode (tC tLw_apply) 4 = .ok (.invokevirtual 42, 3) by decide +kernel)) ⟨by rw [hR]; decide, by rw [hR]; decide, by rw [hR]; decide, by rw [hR]; decide⟩ (Nat.le_of_ble_eq_true rfl) [] ⟨0, 9, 12, 21⟩ [⟨0, 9, 15, 15⟩] rfl (fun _ h => absurd h List.not_mem_nil) rfl (by decide) (gT_in 727 (by decide +kernel) rfl) (List.mem_of_getElem? (l := nC) (i := 2) rfl) (fun a8 => ?_)
      refine v_astore_n (pc := 12) [(3, .ref a8), (0, .ref x0), (1, .int x1), (2, .ref x2)] (show decode (tC tLw_apply) 12 = .ok (.astore_n 3, 1) by decide +kernel) rfl (by decide) rfl ?_
      refine v_iconst (pc := 13) (v := 1) (show decode (tC tLw_apply) 13 = .ok (.iconst 1, 1) by decide +kernel) (by decide) ?_
      obtain rfl := Option.some.inj h
      refine v_wide (ce2 := 1) (sl2 := 6) (Nat.le_of_ble_eq_true rfl) (Nat.le_of_ble_eq_true rfl) ?_
      exact v_iret (pc := 14) rfl (show decode (tC tLw_apply) 14 = .ok (.ireturn, 1) by decide +kernel)
    · replace h := ite_f c0 h
      by_cases c1 : k3 = 2
      · replace h := ite_t c1 h
        subst c1
        refine v_callC (pc := 4) (k := 2) hk (y := yMp_apply) (θ' := tMp_apply) (rm := rMp_apply) (av := [.ref x0, .int x1]) (st := [.int 0, .ref x2]) (cMp_apply (l := gl Γ) hl e1) kMp_apply iMp_apply (iv_virt (y := yMp_apply) (θ' := tMp_apply) (kd := 0) (As := [.int x1]) rfl (ckd_of e2) kMp_apply (gT_in 854 (by decide +kernel) rfl) nMp_apply lMp_apply mMp_apply rfl (show decode (tC tLw_apply) 4 = .ok (.invokevirtual 42, 3) by decide +kernel)) ⟨by rw [hR]; decide, by rw [hR]; decide, by rw [hR]; decide, by rw [hR]; decide⟩ (Nat.le_of_ble_eq_true rfl) [⟨0, 9, 12, 21⟩] ⟨0, 9, 15, 15⟩ [] rfl (List.forall_mem_cons.mpr ⟨⟨rfl, by decide, _, (gT_in 727 (by decide +kernel) rfl), List.mem_of_getElem? (l := nX) (i := 3) rfl⟩, (fun _ h => absurd h List.not_mem_nil)⟩) rfl (by decide) (gT_in 626 (by decide +kernel) rfl) (List.mem_of_getElem? (l := nC) (i := 1) rfl) (fun a9 => ?_)
        refine v_astore_n (pc := 15) [(3, .ref a9), (0, .ref x0), (1, .int x1), (2, .ref x2)] (show decode (tC tLw_apply) 15 = .ok (.astore_n 3, 1) by decide +kernel) rfl (by decide) rfl ?_
        refine v_iconst (pc := 16) (v := 2) (show decode (tC tLw_apply) 16 = .ok (.iconst 2, 1) by decide +kernel) (by decide) ?_
        obtain rfl := Option.some.inj h
        refine v_wide (ce2 := 1) (sl2 := 6) (Nat.le_of_ble_eq_true rfl) (Nat.le_of_ble_eq_true rfl) ?_
        exact v_iret (pc := 17) rfl (show decode (tC tLw_apply) 17 = .ok (.ireturn, 1) by decide +kernel)
      · replace h := ite_f c1 h
        cases h
theorem cLw_apply {l : Launch} (hl : l.flags = pinnedFlags ++ [noTraceFlag]) {D : va_G} {dA : Nat → ClassId} {B : Nat} {x0 : Nat} {x1 : Int32} {x2 : Nat} {S : Sx} {X : Int32 × Sx} (h : fLw_apply x0 x1 x2 S = some X) : Mx l yLw_apply tLw_apply rLw_apply 1 6 D dA B S [.ref x0, .int x1, .ref x2] 0 (some (.int X.1)) X.2 :=
  mx_of hl (by decide) rfl rfl (Nat.le_of_ble_eq_true rfl) (fun Γ e1 e2 e3 e4 e5 => by subst e1; subst e3; subst e4; subst e5; exact wLw_apply e2 hl x0 x1 x2 S h)
/-! MatchPipeLaw.test(LMatchPipe;IIII[J)I -/
def yLw_test : MethodName := ⟨"MatchPipeLaw", "test", "(LMatchPipe;IIII[J)I"⟩
def tLw_test : tM := (method_11_code, "MatchPipeLaw", 7, "test", some .int, [(0, 14, 17, 21), (0, 14, 21, 13), (0, 14, 25, 15)])
def rLw_test : Room := { frames := 9, cells := 1, slots := 6, locals := 176 }
theorem kLw_test : cOf yLw_test tLw_test ∈ gT := gT_in 873 (by decide +kernel) (by decide +kernel)
theorem iLw_test : Cond.initialized yLw_test.cls ∈ gT := gT_in 54 (by decide +kernel) rfl
theorem mLw_test : okM yLw_test 6 := ⟨by decide, by decide, by unfold nPar; decide +kernel⟩
theorem sLw_test : Cond.static yLw_test ∈ gT := gT_in 872 (by decide +kernel) rfl
def fLw_test (x0 : Nat) (x1 : Int32) (x2 : Int32) (x3 : Int32) (x4 : Int32) (x5 : Nat) (S : Sx) : Option (Int32 × Sx) :=
    (ckd S x0 0).bind fun _ =>
    bdC (fMp_test x0 x1 x2 x3 x4 S) (fun r4 S5 =>
    (qJ S5 x5 0 (Int32.toInt64 r4)).bind fun S6 =>
    some (0, S6))
    (fun k3 S5 =>
    if k3 = 3 then
    (some (1, S5))
    else if k3 = 1 then
    (some (2, S5))
    else if k3 = 2 then
    (some (3, S5))
    else  none)
set_option maxRecDepth 100000 in
set_option maxHeartbeats 4000000 in
theorem wLw_test {Γ : vG} (hR : gR Γ = rLw_test) (hl : (gl Γ).flags = pinnedFlags ++ [noTraceFlag]) (x0 : Nat) (x1 : Int32) (x2 : Int32) (x3 : Int32) (x4 : Int32) (x5 : Nat) (S : Sx) {X : Int32 × Sx} (h : fLw_test x0 x1 x2 x3 x4 x5 S = some X) : vV Γ tLw_test (mQ Γ 1 6 0 (some (.int X.1)) X.2) S 0 0 0 [(0, .ref x0), (1, .int x1), (2, .int x2), (3, .int x3), (4, .int x4), (5, .ref x5)] [] := by
  unfold fLw_test at h
  refine v_aload (pc := 0) (show decode (tC tLw_test) 0 = .ok (.aload 5, 2) by decide +kernel) 5 rfl ?_
  refine v_iconst (pc := 2) (v := 0) (show decode (tC tLw_test) 2 = .ok (.iconst 0, 1) by decide +kernel) (by decide) ?_
  refine v_aload_n (pc := 3) (show decode (tC tLw_test) 3 = .ok (.aload_n 0, 1) by decide +kernel) 0 rfl rfl ?_
  refine v_iload_n (pc := 4) (show decode (tC tLw_test) 4 = .ok (.iload_n 1, 1) by decide +kernel) 1 rfl rfl ?_
  refine v_iload_n (pc := 5) (show decode (tC tLw_test) 5 = .ok (.iload_n 2, 1) by decide +kernel) 2 rfl rfl ?_
  refine v_iload_n (pc := 6) (show decode (tC tLw_test) 6 = .ok (.iload_n 3, 1) by decide +kernel) 3 rfl rfl ?_
  refine v_iload (pc := 7) (show decode (tC tLw_test) 7 = .ok (.iload 4, 2) by decide +kernel) 4 rfl ?_
  obtain ⟨_, e2, h⟩ := ob h
  obtain ⟨k3, r4, S5, e1, ⟨hk, h⟩ | ⟨hk, h⟩⟩ := obC h
  · subst hk
    refine v_callR (pc := 9) (mc := 1) (ms := 6) (v := (some (.int r4))) (y := yMp_test) (θ' := tMp_test) (rm := rMp_test) (av := [.ref x0, .int x1, .int x2, .int x3, .int x4]) (st := [.int 0, .ref x5]) (cMp_test (l := gl Γ) hl e1) kMp_test iMp_test (iv_virt (y := yMp_test) (θ' := tMp_test) (kd := 0) (As := [.int x1, .int x2, .int x3, .int x4]) rfl (ckd_of e2) kMp_test (gT_in 874 (by decide +kernel) rfl) nMp_test lMp_test mMp_test rfl (show decode (tC tLw_test) 9 = .ok (.invokevirtual 45, 3) by decide +kernel)) ⟨by rw [hR]; decide, by rw [hR]; decide, by rw [hR]; decide, by rw [hR]; decide⟩ (Nat.le_of_ble_eq_true rfl) ?_
    refine v_i2l (pc := 12) (show decode (tC tLw_test) 12 = .ok (.i2l, 1) by decide +kernel) ?_
    obtain ⟨S6, e7, h⟩ := ob h
    refine v_last (pc := 13) e7 (show decode (tC tLw_test) 13 = .ok (.lastore, 1) by decide +kernel) ?_
    refine v_goto (pc := 14) 29 (show decode (tC tLw_test) 14 = .ok (.goto 15, 3) by decide +kernel) (by decide) ?_
    refine v_iconst (pc := 29) (v := 0) (show decode (tC tLw_test) 29 = .ok (.iconst 0, 1) by decide +kernel) (by decide) ?_
    obtain rfl := Option.some.inj h
    refine v_wide (ce2 := 1) (sl2 := 6) (Nat.le_of_ble_eq_true rfl) (Nat.le_of_ble_eq_true rfl) ?_
    exact v_iret (pc := 30) rfl (show decode (tC tLw_test) 30 = .ok (.ireturn, 1) by decide +kernel)
  · by_cases c0 : k3 = 3
    · replace h := ite_t c0 h
      subst c0
      refine v_callC (pc := 9) (k := 3) hk (y := yMp_test) (θ' := tMp_test) (rm := rMp_test) (av := [.ref x0, .int x1, .int x2, .int x3, .int x4]) (st := [.int 0, .ref x5]) (cMp_test (l := gl Γ) hl e1) kMp_test iMp_test (iv_virt (y := yMp_test) (θ' := tMp_test) (kd := 0) (As := [.int x1, .int x2, .int x3, .int x4]) rfl (ckd_of e2) kMp_test (gT_in 874 (by decide +kernel) rfl) nMp_test lMp_test mMp_test rfl (show decode (tC tLw_test) 9 = .ok (.invokevirtual 45, 3) by decide +kernel)) ⟨by rw [hR]; decide, by rw [hR]; decide, by rw [hR]; decide, by rw [hR]; decide⟩ (Nat.le_of_ble_eq_true rfl) [] ⟨0, 14, 17, 21⟩ [⟨0, 14, 21, 13⟩, ⟨0, 14, 25, 15⟩] rfl (fun _ h => absurd h List.not_mem_nil) rfl (by decide) (gT_in 727 (by decide +kernel) rfl) (List.mem_of_getElem? (l := nC) (i := 2) rfl) (fun a8 => ?_)
      refine v_astore (pc := 17) [(6, .ref a8), (0, .ref x0), (1, .int x1), (2, .int x2), (3, .int x3), (4, .int x4), (5, .ref x5)] (show decode (tC tLw_test) 17 = .ok (.astore 6, 2) by decide +kernel) (by decide) rfl ?_
      refine v_iconst (pc := 19) (v := 1) (show decode (tC tLw_test) 19 = .ok (.iconst 1, 1) by decide +kernel) (by decide) ?_
      obtain rfl := Option.some.inj h
      refine v_wide (ce2 := 1) (sl2 := 6) (Nat.le_of_ble_eq_true rfl) (Nat.le_of_ble_eq_true rfl) ?_
      exact v_iret (pc := 20) rfl (show decode (tC tLw_test) 20 = .ok (.ireturn, 1) by decide +kernel)
    · replace h := ite_f c0 h
      by_cases c1 : k3 = 1
      · replace h := ite_t c1 h
        subst c1
        refine v_callC (pc := 9) (k := 1) hk (y := yMp_test) (θ' := tMp_test) (rm := rMp_test) (av := [.ref x0, .int x1, .int x2, .int x3, .int x4]) (st := [.int 0, .ref x5]) (cMp_test (l := gl Γ) hl e1) kMp_test iMp_test (iv_virt (y := yMp_test) (θ' := tMp_test) (kd := 0) (As := [.int x1, .int x2, .int x3, .int x4]) rfl (ckd_of e2) kMp_test (gT_in 874 (by decide +kernel) rfl) nMp_test lMp_test mMp_test rfl (show decode (tC tLw_test) 9 = .ok (.invokevirtual 45, 3) by decide +kernel)) ⟨by rw [hR]; decide, by rw [hR]; decide, by rw [hR]; decide, by rw [hR]; decide⟩ (Nat.le_of_ble_eq_true rfl) [⟨0, 14, 17, 21⟩] ⟨0, 14, 21, 13⟩ [⟨0, 14, 25, 15⟩] rfl (List.forall_mem_cons.mpr ⟨⟨rfl, by decide, _, (gT_in 727 (by decide +kernel) rfl), List.mem_of_getElem? (l := nX) (i := 1) rfl⟩, (fun _ h => absurd h List.not_mem_nil)⟩) rfl (by decide) (gT_in 625 (by decide +kernel) rfl) (List.mem_of_getElem? (l := nC) (i := 0) rfl) (fun a9 => ?_)
        refine v_astore (pc := 21) [(6, .ref a9), (0, .ref x0), (1, .int x1), (2, .int x2), (3, .int x3), (4, .int x4), (5, .ref x5)] (show decode (tC tLw_test) 21 = .ok (.astore 6, 2) by decide +kernel) (by decide) rfl ?_
        refine v_iconst (pc := 23) (v := 2) (show decode (tC tLw_test) 23 = .ok (.iconst 2, 1) by decide +kernel) (by decide) ?_
        obtain rfl := Option.some.inj h
        refine v_wide (ce2 := 1) (sl2 := 6) (Nat.le_of_ble_eq_true rfl) (Nat.le_of_ble_eq_true rfl) ?_
        exact v_iret (pc := 24) rfl (show decode (tC tLw_test) 24 = .ok (.ireturn, 1) by decide +kernel)
      · replace h := ite_f c1 h
        by_cases c2 : k3 = 2
        · replace h := ite_t c2 h
          subst c2
          refine v_callC (pc := 9) (k := 2) hk (y := yMp_test) (θ' := tMp_test) (rm := rMp_test) (av := [.ref x0, .int x1, .int x2, .int x3, .int x4]) (st := [.int 0, .ref x5]) (cMp_test (l := gl Γ) hl e1) kMp_test iMp_test (iv_virt (y := yMp_test) (θ' := tMp_test) (kd := 0) (As := [.int x1, .int x2, .int x3, .int x4]) rfl (ckd_of e2) kMp_test (gT_in 874 (by decide +kernel) rfl) nMp_test lMp_test mMp_test rfl (show decode (tC tLw_test) 9 = .ok (.invokevirtual 45, 3) by decide +kernel)) ⟨by rw [hR]; decide, by rw [hR]; decide, by rw [hR]; decide, by rw [hR]; decide⟩ (Nat.le_of_ble_eq_true rfl) [⟨0, 14, 17, 21⟩, ⟨0, 14, 21, 13⟩] ⟨0, 14, 25, 15⟩ [] rfl (List.forall_mem_cons.mpr ⟨⟨rfl, by decide, _, (gT_in 727 (by decide +kernel) rfl), List.mem_of_getElem? (l := nX) (i := 3) rfl⟩, (List.forall_mem_cons.mpr ⟨⟨rfl, by decide, _, (gT_in 625 (by decide +kernel) rfl), List.mem_of_getElem? (l := nX) (i := 2) rfl⟩, (fun _ h => absurd h List.not_mem_nil)⟩)⟩) rfl (by decide) (gT_in 626 (by decide +kernel) rfl) (List.mem_of_getElem? (l := nC) (i := 1) rfl) (fun a10 => ?_)
          refine v_astore (pc := 25) [(6, .ref a10), (0, .ref x0), (1, .int x1), (2, .int x2), (3, .int x3), (4, .int x4), (5, .ref x5)] (show decode (tC tLw_test) 25 = .ok (.astore 6, 2) by decide +kernel) (by decide) rfl ?_
          refine v_iconst (pc := 27) (v := 3) (show decode (tC tLw_test) 27 = .ok (.iconst 3, 1) by decide +kernel) (by decide) ?_
          obtain rfl := Option.some.inj h
          refine v_wide (ce2 := 1) (sl2 := 6) (Nat.le_of_ble_eq_true rfl) (Nat.le_of_ble_eq_true rfl) ?_
          exact v_iret (pc := 28) rfl (show decode (tC tLw_test) 28 = .ok (.ireturn, 1) by decide +kernel)
        · replace h := ite_f c2 h
          cases h
theorem cLw_test {l : Launch} (hl : l.flags = pinnedFlags ++ [noTraceFlag]) {D : va_G} {dA : Nat → ClassId} {B : Nat} {x0 : Nat} {x1 : Int32} {x2 : Int32} {x3 : Int32} {x4 : Int32} {x5 : Nat} {S : Sx} {X : Int32 × Sx} (h : fLw_test x0 x1 x2 x3 x4 x5 S = some X) : Mx l yLw_test tLw_test rLw_test 1 6 D dA B S [.ref x0, .int x1, .int x2, .int x3, .int x4, .ref x5] 0 (some (.int X.1)) X.2 :=
  mx_of hl (by decide) rfl rfl (Nat.le_of_ble_eq_true rfl) (fun Γ e1 e2 e3 e4 e5 => by subst e1; subst e3; subst e4; subst e5; exact wLw_test e2 hl x0 x1 x2 x3 x4 x5 S h)
/-! MatchPipeLaw.lay(LMatchPipe;[J)I -/
def yLw_lay : MethodName := ⟨"MatchPipeLaw", "lay", "(LMatchPipe;[J)I"⟩
def tLw_lay : tM := (method_12_code, "MatchPipeLaw", 3, "lay", some .int, [(0, 8, 11, 15), (0, 8, 14, 13)])
def rLw_lay : Room := { frames := 8, cells := 1, slots := 6, locals := 152 }
theorem kLw_lay : cOf yLw_lay tLw_lay ∈ gT := gT_in 885 (by decide +kernel) (by decide +kernel)
theorem iLw_lay : Cond.initialized yLw_lay.cls ∈ gT := gT_in 54 (by decide +kernel) rfl
theorem mLw_lay : okM yLw_lay 2 := ⟨by decide, by decide, by unfold nPar; decide +kernel⟩
theorem sLw_lay : Cond.static yLw_lay ∈ gT := gT_in 884 (by decide +kernel) rfl
def fLw_lay (x0 : Nat) (x1 : Nat) (S : Sx) : Option (Int32 × Sx) :=
    (ckd S x0 0).bind fun _ =>
    bdC (fMp_lay x0 S) (fun r4 S5 =>
    (qJ S5 x1 0 (Int32.toInt64 r4)).bind fun S6 =>
    some (0, S6))
    (fun k3 S5 =>
    if k3 = 2 then
    (some (1, S5))
    else if k3 = 1 then
    (some (2, S5))
    else  none)
set_option maxRecDepth 100000 in
set_option maxHeartbeats 4000000 in
theorem wLw_lay {Γ : vG} (hR : gR Γ = rLw_lay) (hl : (gl Γ).flags = pinnedFlags ++ [noTraceFlag]) (x0 : Nat) (x1 : Nat) (S : Sx) {X : Int32 × Sx} (h : fLw_lay x0 x1 S = some X) : vV Γ tLw_lay (mQ Γ 1 6 0 (some (.int X.1)) X.2) S 0 0 0 [(0, .ref x0), (1, .ref x1)] [] := by
  unfold fLw_lay at h
  refine v_aload_n (pc := 0) (show decode (tC tLw_lay) 0 = .ok (.aload_n 1, 1) by decide +kernel) 1 rfl rfl ?_
  refine v_iconst (pc := 1) (v := 0) (show decode (tC tLw_lay) 1 = .ok (.iconst 0, 1) by decide +kernel) (by decide) ?_
  refine v_aload_n (pc := 2) (show decode (tC tLw_lay) 2 = .ok (.aload_n 0, 1) by decide +kernel) 0 rfl rfl ?_
  obtain ⟨_, e2, h⟩ := ob h
  obtain ⟨k3, r4, S5, e1, ⟨hk, h⟩ | ⟨hk, h⟩⟩ := obC h
  · subst hk
    refine v_callR (pc := 3) (mc := 1) (ms := 6) (v := (some (.int r4))) (y := yMp_lay) (θ' := tMp_lay) (rm := rMp_lay) (av := [.ref x0]) (st := [.int 0, .ref x1]) (cMp_lay (l := gl Γ) hl e1) kMp_lay iMp_lay (iv_virt (y := yMp_lay) (θ' := tMp_lay) (kd := 0) (As := []) rfl (ckd_of e2) kMp_lay (gT_in 886 (by decide +kernel) rfl) nMp_lay lMp_lay mMp_lay rfl (show decode (tC tLw_lay) 3 = .ok (.invokevirtual 49, 3) by decide +kernel)) ⟨by rw [hR]; decide, by rw [hR]; decide, by rw [hR]; decide, by rw [hR]; decide⟩ (Nat.le_of_ble_eq_true rfl) ?_
    refine v_i2l (pc := 6) (show decode (tC tLw_lay) 6 = .ok (.i2l, 1) by decide +kernel) ?_
    obtain ⟨S6, e7, h⟩ := ob h
    refine v_last (pc := 7) e7 (show decode (tC tLw_lay) 7 = .ok (.lastore, 1) by decide +kernel) ?_
    refine v_goto (pc := 8) 17 (show decode (tC tLw_lay) 8 = .ok (.goto 9, 3) by decide +kernel) (by decide) ?_
    refine v_iconst (pc := 17) (v := 0) (show decode (tC tLw_lay) 17 = .ok (.iconst 0, 1) by decide +kernel) (by decide) ?_
    obtain rfl := Option.some.inj h
    refine v_wide (ce2 := 1) (sl2 := 6) (Nat.le_of_ble_eq_true rfl) (Nat.le_of_ble_eq_true rfl) ?_
    exact v_iret (pc := 18) rfl (show decode (tC tLw_lay) 18 = .ok (.ireturn, 1) by decide +kernel)
  · by_cases c0 : k3 = 2
    · replace h := ite_t c0 h
      subst c0
      refine v_callC (pc := 3) (k := 2) hk (y := yMp_lay) (θ' := tMp_lay) (rm := rMp_lay) (av := [.ref x0]) (st := [.int 0, .ref x1]) (cMp_lay (l := gl Γ) hl e1) kMp_lay iMp_lay (iv_virt (y := yMp_lay) (θ' := tMp_lay) (kd := 0) (As := []) rfl (ckd_of e2) kMp_lay (gT_in 886 (by decide +kernel) rfl) nMp_lay lMp_lay mMp_lay rfl (show decode (tC tLw_lay) 3 = .ok (.invokevirtual 49, 3) by decide +kernel)) ⟨by rw [hR]; decide, by rw [hR]; decide, by rw [hR]; decide, by rw [hR]; decide⟩ (Nat.le_of_ble_eq_true rfl) [] ⟨0, 8, 11, 15⟩ [⟨0, 8, 14, 13⟩] rfl (fun _ h => absurd h List.not_mem_nil) rfl (by decide) (gT_in 626 (by decide +kernel) rfl) (List.mem_of_getElem? (l := nC) (i := 1) rfl) (fun a8 => ?_)
      refine v_astore_n (pc := 11) [(2, .ref a8), (0, .ref x0), (1, .ref x1)] (show decode (tC tLw_lay) 11 = .ok (.astore_n 2, 1) by decide +kernel) rfl (by decide) rfl ?_
      refine v_iconst (pc := 12) (v := 1) (show decode (tC tLw_lay) 12 = .ok (.iconst 1, 1) by decide +kernel) (by decide) ?_
      obtain rfl := Option.some.inj h
      refine v_wide (ce2 := 1) (sl2 := 6) (Nat.le_of_ble_eq_true rfl) (Nat.le_of_ble_eq_true rfl) ?_
      exact v_iret (pc := 13) rfl (show decode (tC tLw_lay) 13 = .ok (.ireturn, 1) by decide +kernel)
    · replace h := ite_f c0 h
      by_cases c1 : k3 = 1
      · replace h := ite_t c1 h
        subst c1
        refine v_callC (pc := 3) (k := 1) hk (y := yMp_lay) (θ' := tMp_lay) (rm := rMp_lay) (av := [.ref x0]) (st := [.int 0, .ref x1]) (cMp_lay (l := gl Γ) hl e1) kMp_lay iMp_lay (iv_virt (y := yMp_lay) (θ' := tMp_lay) (kd := 0) (As := []) rfl (ckd_of e2) kMp_lay (gT_in 886 (by decide +kernel) rfl) nMp_lay lMp_lay mMp_lay rfl (show decode (tC tLw_lay) 3 = .ok (.invokevirtual 49, 3) by decide +kernel)) ⟨by rw [hR]; decide, by rw [hR]; decide, by rw [hR]; decide, by rw [hR]; decide⟩ (Nat.le_of_ble_eq_true rfl) [⟨0, 8, 11, 15⟩] ⟨0, 8, 14, 13⟩ [] rfl (List.forall_mem_cons.mpr ⟨⟨rfl, by decide, _, (gT_in 626 (by decide +kernel) rfl), List.mem_of_getElem? (l := nX) (i := 0) rfl⟩, (fun _ h => absurd h List.not_mem_nil)⟩) rfl (by decide) (gT_in 625 (by decide +kernel) rfl) (List.mem_of_getElem? (l := nC) (i := 0) rfl) (fun a9 => ?_)
        refine v_astore_n (pc := 14) [(2, .ref a9), (0, .ref x0), (1, .ref x1)] (show decode (tC tLw_lay) 14 = .ok (.astore_n 2, 1) by decide +kernel) rfl (by decide) rfl ?_
        refine v_iconst (pc := 15) (v := 2) (show decode (tC tLw_lay) 15 = .ok (.iconst 2, 1) by decide +kernel) (by decide) ?_
        obtain rfl := Option.some.inj h
        refine v_wide (ce2 := 1) (sl2 := 6) (Nat.le_of_ble_eq_true rfl) (Nat.le_of_ble_eq_true rfl) ?_
        exact v_iret (pc := 16) rfl (show decode (tC tLw_lay) 16 = .ok (.ireturn, 1) by decide +kernel)
      · replace h := ite_f c1 h
        cases h
theorem cLw_lay {l : Launch} (hl : l.flags = pinnedFlags ++ [noTraceFlag]) {D : va_G} {dA : Nat → ClassId} {B : Nat} {x0 : Nat} {x1 : Nat} {S : Sx} {X : Int32 × Sx} (h : fLw_lay x0 x1 S = some X) : Mx l yLw_lay tLw_lay rLw_lay 1 6 D dA B S [.ref x0, .ref x1] 0 (some (.int X.1)) X.2 :=
  mx_of hl (by decide) rfl rfl (Nat.le_of_ble_eq_true rfl) (fun Γ e1 e2 e3 e4 e5 => by subst e1; subst e3; subst e4; subst e5; exact wLw_lay e2 hl x0 x1 S h)
/-! MatchPipeLaw.packet(LMatchPipe;[J)I -/
def yLw_packet : MethodName := ⟨"MatchPipeLaw", "packet", "(LMatchPipe;[J)I"⟩
def tLw_packet : tM := (method_13_code, "MatchPipeLaw", 3, "packet", some .int, [(0, 8, 11, 15)])
def rLw_packet : Room := { frames := 9, cells := 1, slots := 6, locals := 171 }
theorem kLw_packet : cOf yLw_packet tLw_packet ∈ gT := gT_in 969 (by decide +kernel) (by decide +kernel)
theorem iLw_packet : Cond.initialized yLw_packet.cls ∈ gT := gT_in 54 (by decide +kernel) rfl
theorem mLw_packet : okM yLw_packet 2 := ⟨by decide, by decide, by unfold nPar; decide +kernel⟩
theorem sLw_packet : Cond.static yLw_packet ∈ gT := gT_in 968 (by decide +kernel) rfl
def fLw_packet (x0 : Nat) (x1 : Nat) (S : Sx) : Option (Int32 × Sx) :=
    (ckd S x0 0).bind fun _ =>
    bdC (fMp_packet x0 S) (fun r4 S5 =>
    (qJ S5 x1 0 (Int32.toInt64 r4)).bind fun S6 =>
    some (0, S6))
    (fun k3 S5 =>
    if k3 = 2 then
    (some (1, S5))
    else  none)
set_option maxRecDepth 100000 in
set_option maxHeartbeats 4000000 in
theorem wLw_packet {Γ : vG} (hR : gR Γ = rLw_packet) (hl : (gl Γ).flags = pinnedFlags ++ [noTraceFlag]) (x0 : Nat) (x1 : Nat) (S : Sx) {X : Int32 × Sx} (h : fLw_packet x0 x1 S = some X) : vV Γ tLw_packet (mQ Γ 1 6 0 (some (.int X.1)) X.2) S 0 0 0 [(0, .ref x0), (1, .ref x1)] [] := by
  unfold fLw_packet at h
  refine v_aload_n (pc := 0) (show decode (tC tLw_packet) 0 = .ok (.aload_n 1, 1) by decide +kernel) 1 rfl rfl ?_
  refine v_iconst (pc := 1) (v := 0) (show decode (tC tLw_packet) 1 = .ok (.iconst 0, 1) by decide +kernel) (by decide) ?_
  refine v_aload_n (pc := 2) (show decode (tC tLw_packet) 2 = .ok (.aload_n 0, 1) by decide +kernel) 0 rfl rfl ?_
  obtain ⟨_, e2, h⟩ := ob h
  obtain ⟨k3, r4, S5, e1, ⟨hk, h⟩ | ⟨hk, h⟩⟩ := obC h
  · subst hk
    refine v_callR (pc := 3) (mc := 1) (ms := 6) (v := (some (.int r4))) (y := yMp_packet) (θ' := tMp_packet) (rm := rMp_packet) (av := [.ref x0]) (st := [.int 0, .ref x1]) (cMp_packet (l := gl Γ) hl e1) kMp_packet iMp_packet (iv_virt (y := yMp_packet) (θ' := tMp_packet) (kd := 0) (As := []) rfl (ckd_of e2) kMp_packet (gT_in 970 (by decide +kernel) rfl) nMp_packet lMp_packet mMp_packet rfl (show decode (tC tLw_packet) 3 = .ok (.invokevirtual 52, 3) by decide +kernel)) ⟨by rw [hR]; decide, by rw [hR]; decide, by rw [hR]; decide, by rw [hR]; decide⟩ (Nat.le_of_ble_eq_true rfl) ?_
    refine v_i2l (pc := 6) (show decode (tC tLw_packet) 6 = .ok (.i2l, 1) by decide +kernel) ?_
    obtain ⟨S6, e7, h⟩ := ob h
    refine v_last (pc := 7) e7 (show decode (tC tLw_packet) 7 = .ok (.lastore, 1) by decide +kernel) ?_
    refine v_goto (pc := 8) 14 (show decode (tC tLw_packet) 8 = .ok (.goto 6, 3) by decide +kernel) (by decide) ?_
    refine v_iconst (pc := 14) (v := 0) (show decode (tC tLw_packet) 14 = .ok (.iconst 0, 1) by decide +kernel) (by decide) ?_
    obtain rfl := Option.some.inj h
    refine v_wide (ce2 := 1) (sl2 := 6) (Nat.le_of_ble_eq_true rfl) (Nat.le_of_ble_eq_true rfl) ?_
    exact v_iret (pc := 15) rfl (show decode (tC tLw_packet) 15 = .ok (.ireturn, 1) by decide +kernel)
  · by_cases c0 : k3 = 2
    · replace h := ite_t c0 h
      subst c0
      refine v_callC (pc := 3) (k := 2) hk (y := yMp_packet) (θ' := tMp_packet) (rm := rMp_packet) (av := [.ref x0]) (st := [.int 0, .ref x1]) (cMp_packet (l := gl Γ) hl e1) kMp_packet iMp_packet (iv_virt (y := yMp_packet) (θ' := tMp_packet) (kd := 0) (As := []) rfl (ckd_of e2) kMp_packet (gT_in 970 (by decide +kernel) rfl) nMp_packet lMp_packet mMp_packet rfl (show decode (tC tLw_packet) 3 = .ok (.invokevirtual 52, 3) by decide +kernel)) ⟨by rw [hR]; decide, by rw [hR]; decide, by rw [hR]; decide, by rw [hR]; decide⟩ (Nat.le_of_ble_eq_true rfl) [] ⟨0, 8, 11, 15⟩ [] rfl (fun _ h => absurd h List.not_mem_nil) rfl (by decide) (gT_in 626 (by decide +kernel) rfl) (List.mem_of_getElem? (l := nC) (i := 1) rfl) (fun a8 => ?_)
      refine v_astore_n (pc := 11) [(2, .ref a8), (0, .ref x0), (1, .ref x1)] (show decode (tC tLw_packet) 11 = .ok (.astore_n 2, 1) by decide +kernel) rfl (by decide) rfl ?_
      refine v_iconst (pc := 12) (v := 1) (show decode (tC tLw_packet) 12 = .ok (.iconst 1, 1) by decide +kernel) (by decide) ?_
      obtain rfl := Option.some.inj h
      refine v_wide (ce2 := 1) (sl2 := 6) (Nat.le_of_ble_eq_true rfl) (Nat.le_of_ble_eq_true rfl) ?_
      exact v_iret (pc := 13) rfl (show decode (tC tLw_packet) 13 = .ok (.ireturn, 1) by decide +kernel)
    · replace h := ite_f c0 h
      cases h
theorem cLw_packet {l : Launch} (hl : l.flags = pinnedFlags ++ [noTraceFlag]) {D : va_G} {dA : Nat → ClassId} {B : Nat} {x0 : Nat} {x1 : Nat} {S : Sx} {X : Int32 × Sx} (h : fLw_packet x0 x1 S = some X) : Mx l yLw_packet tLw_packet rLw_packet 1 6 D dA B S [.ref x0, .ref x1] 0 (some (.int X.1)) X.2 :=
  mx_of hl (by decide) rfl rfl (Nat.le_of_ble_eq_true rfl) (fun Γ e1 e2 e3 e4 e5 => by subst e1; subst e3; subst e4; subst e5; exact wLw_packet e2 hl x0 x1 S h)
/-! MatchPipeLaw.insert(LMatchPipe;IIIII[J)I -/
def yLw_insert : MethodName := ⟨"MatchPipeLaw", "insert", "(LMatchPipe;IIIII[J)I"⟩
def tLw_insert : tM := (method_14_code, "MatchPipeLaw", 8, "insert", some .int, [(0, 16, 19, 21), (0, 16, 23, 15)])
def rLw_insert : Room := { frames := 9, cells := 1, slots := 6, locals := 176 }
theorem kLw_insert : cOf yLw_insert tLw_insert ∈ gT := gT_in 1002 (by decide +kernel) (by decide +kernel)
theorem iLw_insert : Cond.initialized yLw_insert.cls ∈ gT := gT_in 54 (by decide +kernel) rfl
theorem mLw_insert : okM yLw_insert 7 := ⟨by decide, by decide, by unfold nPar; decide +kernel⟩
theorem sLw_insert : Cond.static yLw_insert ∈ gT := gT_in 1001 (by decide +kernel) rfl
def fLw_insert (x0 : Nat) (x1 : Int32) (x2 : Int32) (x3 : Int32) (x4 : Int32) (x5 : Int32) (x6 : Nat) (S : Sx) : Option (Int32 × Sx) :=
    (ckd S x0 0).bind fun _ =>
    bdC (fMp_insert x0 x1 x2 x3 x4 x5 S) (fun r4 S5 =>
    (qJ S5 x6 0 (Int32.toInt64 r4)).bind fun S6 =>
    some (0, S6))
    (fun k3 S5 =>
    if k3 = 3 then
    (some (1, S5))
    else if k3 = 2 then
    (some (2, S5))
    else  none)
set_option maxRecDepth 100000 in
set_option maxHeartbeats 4000000 in
theorem wLw_insert {Γ : vG} (hR : gR Γ = rLw_insert) (hl : (gl Γ).flags = pinnedFlags ++ [noTraceFlag]) (x0 : Nat) (x1 : Int32) (x2 : Int32) (x3 : Int32) (x4 : Int32) (x5 : Int32) (x6 : Nat) (S : Sx) {X : Int32 × Sx} (h : fLw_insert x0 x1 x2 x3 x4 x5 x6 S = some X) : vV Γ tLw_insert (mQ Γ 1 6 0 (some (.int X.1)) X.2) S 0 0 0 [(0, .ref x0), (1, .int x1), (2, .int x2), (3, .int x3), (4, .int x4), (5, .int x5), (6, .ref x6)] [] := by
  unfold fLw_insert at h
  refine v_aload (pc := 0) (show decode (tC tLw_insert) 0 = .ok (.aload 6, 2) by decide +kernel) 6 rfl ?_
  refine v_iconst (pc := 2) (v := 0) (show decode (tC tLw_insert) 2 = .ok (.iconst 0, 1) by decide +kernel) (by decide) ?_
  refine v_aload_n (pc := 3) (show decode (tC tLw_insert) 3 = .ok (.aload_n 0, 1) by decide +kernel) 0 rfl rfl ?_
  refine v_iload_n (pc := 4) (show decode (tC tLw_insert) 4 = .ok (.iload_n 1, 1) by decide +kernel) 1 rfl rfl ?_
  refine v_iload_n (pc := 5) (show decode (tC tLw_insert) 5 = .ok (.iload_n 2, 1) by decide +kernel) 2 rfl rfl ?_
  refine v_iload_n (pc := 6) (show decode (tC tLw_insert) 6 = .ok (.iload_n 3, 1) by decide +kernel) 3 rfl rfl ?_
  refine v_iload (pc := 7) (show decode (tC tLw_insert) 7 = .ok (.iload 4, 2) by decide +kernel) 4 rfl ?_
  refine v_iload (pc := 9) (show decode (tC tLw_insert) 9 = .ok (.iload 5, 2) by decide +kernel) 5 rfl ?_
  obtain ⟨_, e2, h⟩ := ob h
  obtain ⟨k3, r4, S5, e1, ⟨hk, h⟩ | ⟨hk, h⟩⟩ := obC h
  · subst hk
    refine v_callR (pc := 11) (mc := 1) (ms := 6) (v := (some (.int r4))) (y := yMp_insert) (θ' := tMp_insert) (rm := rMp_insert) (av := [.ref x0, .int x1, .int x2, .int x3, .int x4, .int x5]) (st := [.int 0, .ref x6]) (cMp_insert (l := gl Γ) hl e1) kMp_insert iMp_insert (iv_virt (y := yMp_insert) (θ' := tMp_insert) (kd := 0) (As := [.int x1, .int x2, .int x3, .int x4, .int x5]) rfl (ckd_of e2) kMp_insert (gT_in 1003 (by decide +kernel) rfl) nMp_insert lMp_insert mMp_insert rfl (show decode (tC tLw_insert) 11 = .ok (.invokevirtual 55, 3) by decide +kernel)) ⟨by rw [hR]; decide, by rw [hR]; decide, by rw [hR]; decide, by rw [hR]; decide⟩ (Nat.le_of_ble_eq_true rfl) ?_
    refine v_i2l (pc := 14) (show decode (tC tLw_insert) 14 = .ok (.i2l, 1) by decide +kernel) ?_
    obtain ⟨S6, e7, h⟩ := ob h
    refine v_last (pc := 15) e7 (show decode (tC tLw_insert) 15 = .ok (.lastore, 1) by decide +kernel) ?_
    refine v_goto (pc := 16) 27 (show decode (tC tLw_insert) 16 = .ok (.goto 11, 3) by decide +kernel) (by decide) ?_
    refine v_iconst (pc := 27) (v := 0) (show decode (tC tLw_insert) 27 = .ok (.iconst 0, 1) by decide +kernel) (by decide) ?_
    obtain rfl := Option.some.inj h
    refine v_wide (ce2 := 1) (sl2 := 6) (Nat.le_of_ble_eq_true rfl) (Nat.le_of_ble_eq_true rfl) ?_
    exact v_iret (pc := 28) rfl (show decode (tC tLw_insert) 28 = .ok (.ireturn, 1) by decide +kernel)
  · by_cases c0 : k3 = 3
    · replace h := ite_t c0 h
      subst c0
      refine v_callC (pc := 11) (k := 3) hk (y := yMp_insert) (θ' := tMp_insert) (rm := rMp_insert) (av := [.ref x0, .int x1, .int x2, .int x3, .int x4, .int x5]) (st := [.int 0, .ref x6]) (cMp_insert (l := gl Γ) hl e1) kMp_insert iMp_insert (iv_virt (y := yMp_insert) (θ' := tMp_insert) (kd := 0) (As := [.int x1, .int x2, .int x3, .int x4, .int x5]) rfl (ckd_of e2) kMp_insert (gT_in 1003 (by decide +kernel) rfl) nMp_insert lMp_insert mMp_insert rfl (show decode (tC tLw_insert) 11 = .ok (.invokevirtual 55, 3) by decide +kernel)) ⟨by rw [hR]; decide, by rw [hR]; decide, by rw [hR]; decide, by rw [hR]; decide⟩ (Nat.le_of_ble_eq_true rfl) [] ⟨0, 16, 19, 21⟩ [⟨0, 16, 23, 15⟩] rfl (fun _ h => absurd h List.not_mem_nil) rfl (by decide) (gT_in 727 (by decide +kernel) rfl) (List.mem_of_getElem? (l := nC) (i := 2) rfl) (fun a8 => ?_)
      refine v_astore (pc := 19) [(7, .ref a8), (0, .ref x0), (1, .int x1), (2, .int x2), (3, .int x3), (4, .int x4), (5, .int x5), (6, .ref x6)] (show decode (tC tLw_insert) 19 = .ok (.astore 7, 2) by decide +kernel) (by decide) rfl ?_
      refine v_iconst (pc := 21) (v := 1) (show decode (tC tLw_insert) 21 = .ok (.iconst 1, 1) by decide +kernel) (by decide) ?_
      obtain rfl := Option.some.inj h
      refine v_wide (ce2 := 1) (sl2 := 6) (Nat.le_of_ble_eq_true rfl) (Nat.le_of_ble_eq_true rfl) ?_
      exact v_iret (pc := 22) rfl (show decode (tC tLw_insert) 22 = .ok (.ireturn, 1) by decide +kernel)
    · replace h := ite_f c0 h
      by_cases c1 : k3 = 2
      · replace h := ite_t c1 h
        subst c1
        refine v_callC (pc := 11) (k := 2) hk (y := yMp_insert) (θ' := tMp_insert) (rm := rMp_insert) (av := [.ref x0, .int x1, .int x2, .int x3, .int x4, .int x5]) (st := [.int 0, .ref x6]) (cMp_insert (l := gl Γ) hl e1) kMp_insert iMp_insert (iv_virt (y := yMp_insert) (θ' := tMp_insert) (kd := 0) (As := [.int x1, .int x2, .int x3, .int x4, .int x5]) rfl (ckd_of e2) kMp_insert (gT_in 1003 (by decide +kernel) rfl) nMp_insert lMp_insert mMp_insert rfl (show decode (tC tLw_insert) 11 = .ok (.invokevirtual 55, 3) by decide +kernel)) ⟨by rw [hR]; decide, by rw [hR]; decide, by rw [hR]; decide, by rw [hR]; decide⟩ (Nat.le_of_ble_eq_true rfl) [⟨0, 16, 19, 21⟩] ⟨0, 16, 23, 15⟩ [] rfl (List.forall_mem_cons.mpr ⟨⟨rfl, by decide, _, (gT_in 727 (by decide +kernel) rfl), List.mem_of_getElem? (l := nX) (i := 3) rfl⟩, (fun _ h => absurd h List.not_mem_nil)⟩) rfl (by decide) (gT_in 626 (by decide +kernel) rfl) (List.mem_of_getElem? (l := nC) (i := 1) rfl) (fun a9 => ?_)
        refine v_astore (pc := 23) [(7, .ref a9), (0, .ref x0), (1, .int x1), (2, .int x2), (3, .int x3), (4, .int x4), (5, .int x5), (6, .ref x6)] (show decode (tC tLw_insert) 23 = .ok (.astore 7, 2) by decide +kernel) (by decide) rfl ?_
        refine v_iconst (pc := 25) (v := 2) (show decode (tC tLw_insert) 25 = .ok (.iconst 2, 1) by decide +kernel) (by decide) ?_
        obtain rfl := Option.some.inj h
        refine v_wide (ce2 := 1) (sl2 := 6) (Nat.le_of_ble_eq_true rfl) (Nat.le_of_ble_eq_true rfl) ?_
        exact v_iret (pc := 26) rfl (show decode (tC tLw_insert) 26 = .ok (.ireturn, 1) by decide +kernel)
      · replace h := ite_f c1 h
        cases h
theorem cLw_insert {l : Launch} (hl : l.flags = pinnedFlags ++ [noTraceFlag]) {D : va_G} {dA : Nat → ClassId} {B : Nat} {x0 : Nat} {x1 : Int32} {x2 : Int32} {x3 : Int32} {x4 : Int32} {x5 : Int32} {x6 : Nat} {S : Sx} {X : Int32 × Sx} (h : fLw_insert x0 x1 x2 x3 x4 x5 x6 S = some X) : Mx l yLw_insert tLw_insert rLw_insert 1 6 D dA B S [.ref x0, .int x1, .int x2, .int x3, .int x4, .int x5, .ref x6] 0 (some (.int X.1)) X.2 :=
  mx_of hl (by decide) rfl rfl (Nat.le_of_ble_eq_true rfl) (fun Γ e1 e2 e3 e4 e5 => by subst e1; subst e3; subst e4; subst e5; exact wLw_insert e2 hl x0 x1 x2 x3 x4 x5 x6 S h)
/-! MatchPipeLaw.remove(LMatchPipe;I[J)I -/
def yLw_remove : MethodName := ⟨"MatchPipeLaw", "remove", "(LMatchPipe;I[J)I"⟩
def tLw_remove : tM := (method_15_code, "MatchPipeLaw", 4, "remove", some .int, [(0, 9, 12, 21), (0, 9, 15, 15)])
def rLw_remove : Room := { frames := 9, cells := 1, slots := 6, locals := 172 }
theorem kLw_remove : cOf yLw_remove tLw_remove ∈ gT := gT_in 1019 (by decide +kernel) (by decide +kernel)
theorem iLw_remove : Cond.initialized yLw_remove.cls ∈ gT := gT_in 54 (by decide +kernel) rfl
theorem mLw_remove : okM yLw_remove 3 := ⟨by decide, by decide, by unfold nPar; decide +kernel⟩
theorem sLw_remove : Cond.static yLw_remove ∈ gT := gT_in 1018 (by decide +kernel) rfl
def fLw_remove (x0 : Nat) (x1 : Int32) (x2 : Nat) (S : Sx) : Option (Int32 × Sx) :=
    (ckd S x0 0).bind fun _ =>
    bdC (fMp_remove x0 x1 S) (fun r4 S5 =>
    (qJ S5 x2 0 (Int32.toInt64 r4)).bind fun S6 =>
    some (0, S6))
    (fun k3 S5 =>
    if k3 = 3 then
    (some (1, S5))
    else if k3 = 2 then
    (some (2, S5))
    else  none)
set_option maxRecDepth 100000 in
set_option maxHeartbeats 4000000 in
theorem wLw_remove {Γ : vG} (hR : gR Γ = rLw_remove) (hl : (gl Γ).flags = pinnedFlags ++ [noTraceFlag]) (x0 : Nat) (x1 : Int32) (x2 : Nat) (S : Sx) {X : Int32 × Sx} (h : fLw_remove x0 x1 x2 S = some X) : vV Γ tLw_remove (mQ Γ 1 6 0 (some (.int X.1)) X.2) S 0 0 0 [(0, .ref x0), (1, .int x1), (2, .ref x2)] [] := by
  unfold fLw_remove at h
  refine v_aload_n (pc := 0) (show decode (tC tLw_remove) 0 = .ok (.aload_n 2, 1) by decide +kernel) 2 rfl rfl ?_
  refine v_iconst (pc := 1) (v := 0) (show decode (tC tLw_remove) 1 = .ok (.iconst 0, 1) by decide +kernel) (by decide) ?_
  refine v_aload_n (pc := 2) (show decode (tC tLw_remove) 2 = .ok (.aload_n 0, 1) by decide +kernel) 0 rfl rfl ?_
  refine v_iload_n (pc := 3) (show decode (tC tLw_remove) 3 = .ok (.iload_n 1, 1) by decide +kernel) 1 rfl rfl ?_
  obtain ⟨_, e2, h⟩ := ob h
  obtain ⟨k3, r4, S5, e1, ⟨hk, h⟩ | ⟨hk, h⟩⟩ := obC h
  · subst hk
    refine v_callR (pc := 4) (mc := 1) (ms := 6) (v := (some (.int r4))) (y := yMp_remove) (θ' := tMp_remove) (rm := rMp_remove) (av := [.ref x0, .int x1]) (st := [.int 0, .ref x2]) (cMp_remove (l := gl Γ) hl e1) kMp_remove iMp_remove (iv_virt (y := yMp_remove) (θ' := tMp_remove) (kd := 0) (As := [.int x1]) rfl (ckd_of e2) kMp_remove (gT_in 1020 (by decide +kernel) rfl) nMp_remove lMp_remove mMp_remove rfl (show decode (tC tLw_remove) 4 = .ok (.invokevirtual 58, 3) by decide +kernel)) ⟨by rw [hR]; decide, by rw [hR]; decide, by rw [hR]; decide, by rw [hR]; decide⟩ (Nat.le_of_ble_eq_true rfl) ?_
    refine v_i2l (pc := 7) (show decode (tC tLw_remove) 7 = .ok (.i2l, 1) by decide +kernel) ?_
    obtain ⟨S6, e7, h⟩ := ob h
    refine v_last (pc := 8) e7 (show decode (tC tLw_remove) 8 = .ok (.lastore, 1) by decide +kernel) ?_
    refine v_goto (pc := 9) 18 (show decode (tC tLw_remove) 9 = .ok (.goto 9, 3) by decide +kernel) (by decide) ?_
    refine v_iconst (pc := 18) (v := 0) (show decode (tC tLw_remove) 18 = .ok (.iconst 0, 1) by decide +kernel) (by decide) ?_
    obtain rfl := Option.some.inj h
    refine v_wide (ce2 := 1) (sl2 := 6) (Nat.le_of_ble_eq_true rfl) (Nat.le_of_ble_eq_true rfl) ?_
    exact v_iret (pc := 19) rfl (show decode (tC tLw_remove) 19 = .ok (.ireturn, 1) by decide +kernel)
  · by_cases c0 : k3 = 3
    · replace h := ite_t c0 h
      subst c0
      refine v_callC (pc := 4) (k := 3) hk (y := yMp_remove) (θ' := tMp_remove) (rm := rMp_remove) (av := [.ref x0, .int x1]) (st := [.int 0, .ref x2]) (cMp_remove (l := gl Γ) hl e1) kMp_remove iMp_remove (iv_virt (y := yMp_remove) (θ' := tMp_remove) (kd := 0) (As := [.int x1]) rfl (ckd_of e2) kMp_remove (gT_in 1020 (by decide +kernel) rfl) nMp_remove lMp_remove mMp_remove rfl (show decode (tC tLw_remove) 4 = .ok (.invokevirtual 58, 3) by decide +kernel)) ⟨by rw [hR]; decide, by rw [hR]; decide, by rw [hR]; decide, by rw [hR]; decide⟩ (Nat.le_of_ble_eq_true rfl) [] ⟨0, 9, 12, 21⟩ [⟨0, 9, 15, 15⟩] rfl (fun _ h => absurd h List.not_mem_nil) rfl (by decide) (gT_in 727 (by decide +kernel) rfl) (List.mem_of_getElem? (l := nC) (i := 2) rfl) (fun a8 => ?_)
      refine v_astore_n (pc := 12) [(3, .ref a8), (0, .ref x0), (1, .int x1), (2, .ref x2)] (show decode (tC tLw_remove) 12 = .ok (.astore_n 3, 1) by decide +kernel) rfl (by decide) rfl ?_
      refine v_iconst (pc := 13) (v := 1) (show decode (tC tLw_remove) 13 = .ok (.iconst 1, 1) by decide +kernel) (by decide) ?_
      obtain rfl := Option.some.inj h
      refine v_wide (ce2 := 1) (sl2 := 6) (Nat.le_of_ble_eq_true rfl) (Nat.le_of_ble_eq_true rfl) ?_
      exact v_iret (pc := 14) rfl (show decode (tC tLw_remove) 14 = .ok (.ireturn, 1) by decide +kernel)
    · replace h := ite_f c0 h
      by_cases c1 : k3 = 2
      · replace h := ite_t c1 h
        subst c1
        refine v_callC (pc := 4) (k := 2) hk (y := yMp_remove) (θ' := tMp_remove) (rm := rMp_remove) (av := [.ref x0, .int x1]) (st := [.int 0, .ref x2]) (cMp_remove (l := gl Γ) hl e1) kMp_remove iMp_remove (iv_virt (y := yMp_remove) (θ' := tMp_remove) (kd := 0) (As := [.int x1]) rfl (ckd_of e2) kMp_remove (gT_in 1020 (by decide +kernel) rfl) nMp_remove lMp_remove mMp_remove rfl (show decode (tC tLw_remove) 4 = .ok (.invokevirtual 58, 3) by decide +kernel)) ⟨by rw [hR]; decide, by rw [hR]; decide, by rw [hR]; decide, by rw [hR]; decide⟩ (Nat.le_of_ble_eq_true rfl) [⟨0, 9, 12, 21⟩] ⟨0, 9, 15, 15⟩ [] rfl (List.forall_mem_cons.mpr ⟨⟨rfl, by decide, _, (gT_in 727 (by decide +kernel) rfl), List.mem_of_getElem? (l := nX) (i := 3) rfl⟩, (fun _ h => absurd h List.not_mem_nil)⟩) rfl (by decide) (gT_in 626 (by decide +kernel) rfl) (List.mem_of_getElem? (l := nC) (i := 1) rfl) (fun a9 => ?_)
        refine v_astore_n (pc := 15) [(3, .ref a9), (0, .ref x0), (1, .int x1), (2, .ref x2)] (show decode (tC tLw_remove) 15 = .ok (.astore_n 3, 1) by decide +kernel) rfl (by decide) rfl ?_
        refine v_iconst (pc := 16) (v := 2) (show decode (tC tLw_remove) 16 = .ok (.iconst 2, 1) by decide +kernel) (by decide) ?_
        obtain rfl := Option.some.inj h
        refine v_wide (ce2 := 1) (sl2 := 6) (Nat.le_of_ble_eq_true rfl) (Nat.le_of_ble_eq_true rfl) ?_
        exact v_iret (pc := 17) rfl (show decode (tC tLw_remove) 17 = .ok (.ireturn, 1) by decide +kernel)
      · replace h := ite_f c1 h
        cases h
theorem cLw_remove {l : Launch} (hl : l.flags = pinnedFlags ++ [noTraceFlag]) {D : va_G} {dA : Nat → ClassId} {B : Nat} {x0 : Nat} {x1 : Int32} {x2 : Nat} {S : Sx} {X : Int32 × Sx} (h : fLw_remove x0 x1 x2 S = some X) : Mx l yLw_remove tLw_remove rLw_remove 1 6 D dA B S [.ref x0, .int x1, .ref x2] 0 (some (.int X.1)) X.2 :=
  mx_of hl (by decide) rfl rfl (Nat.le_of_ble_eq_true rfl) (fun Γ e1 e2 e3 e4 e5 => by subst e1; subst e3; subst e4; subst e5; exact wLw_remove e2 hl x0 x1 x2 S h)
/-! MatchPipeLaw.run(LMatchPipe;I[J)I -/
def yLw_run : MethodName := ⟨"MatchPipeLaw", "run", "(LMatchPipe;I[J)I"⟩
def tLw_run : tM := (method_16_code, "MatchPipeLaw", 4, "run", some .int, [(0, 9, 12, 15), (0, 9, 15, 13)])
def rLw_run : Room := { frames := 8, cells := 1, slots := 6, locals := 185 }
theorem kLw_run : cOf yLw_run tLw_run ∈ gT := gT_in 1026 (by decide +kernel) (by decide +kernel)
theorem iLw_run : Cond.initialized yLw_run.cls ∈ gT := gT_in 54 (by decide +kernel) rfl
theorem mLw_run : okM yLw_run 3 := ⟨by decide, by decide, by unfold nPar; decide +kernel⟩
theorem sLw_run : Cond.static yLw_run ∈ gT := gT_in 1025 (by decide +kernel) rfl
def fLw_run (x0 : Nat) (x1 : Int32) (x2 : Nat) (S : Sx) : Option (Int32 × Sx) :=
    (ckd S x0 0).bind fun _ =>
    bdC (fMp_run x0 x1 S) (fun r4 S5 =>
    (qJ S5 x2 0 (Int32.toInt64 r4)).bind fun S6 =>
    some (0, S6))
    (fun k3 S5 =>
    if k3 = 2 then
    (some (1, S5))
    else if k3 = 1 then
    (some (2, S5))
    else  none)
set_option maxRecDepth 100000 in
set_option maxHeartbeats 4000000 in
theorem wLw_run {Γ : vG} (hR : gR Γ = rLw_run) (hl : (gl Γ).flags = pinnedFlags ++ [noTraceFlag]) (x0 : Nat) (x1 : Int32) (x2 : Nat) (S : Sx) {X : Int32 × Sx} (h : fLw_run x0 x1 x2 S = some X) : vV Γ tLw_run (mQ Γ 1 6 0 (some (.int X.1)) X.2) S 0 0 0 [(0, .ref x0), (1, .int x1), (2, .ref x2)] [] := by
  unfold fLw_run at h
  refine v_aload_n (pc := 0) (show decode (tC tLw_run) 0 = .ok (.aload_n 2, 1) by decide +kernel) 2 rfl rfl ?_
  refine v_iconst (pc := 1) (v := 0) (show decode (tC tLw_run) 1 = .ok (.iconst 0, 1) by decide +kernel) (by decide) ?_
  refine v_aload_n (pc := 2) (show decode (tC tLw_run) 2 = .ok (.aload_n 0, 1) by decide +kernel) 0 rfl rfl ?_
  refine v_iload_n (pc := 3) (show decode (tC tLw_run) 3 = .ok (.iload_n 1, 1) by decide +kernel) 1 rfl rfl ?_
  obtain ⟨_, e2, h⟩ := ob h
  obtain ⟨k3, r4, S5, e1, ⟨hk, h⟩ | ⟨hk, h⟩⟩ := obC h
  · subst hk
    refine v_callR (pc := 4) (mc := 1) (ms := 6) (v := (some (.int r4))) (y := yMp_run) (θ' := tMp_run) (rm := rMp_run) (av := [.ref x0, .int x1]) (st := [.int 0, .ref x2]) (cMp_run (l := gl Γ) hl e1) kMp_run iMp_run (iv_virt (y := yMp_run) (θ' := tMp_run) (kd := 0) (As := [.int x1]) rfl (ckd_of e2) kMp_run (gT_in 1027 (by decide +kernel) rfl) nMp_run lMp_run mMp_run rfl (show decode (tC tLw_run) 4 = .ok (.invokevirtual 61, 3) by decide +kernel)) ⟨by rw [hR]; decide, by rw [hR]; decide, by rw [hR]; decide, by rw [hR]; decide⟩ (Nat.le_of_ble_eq_true rfl) ?_
    refine v_i2l (pc := 7) (show decode (tC tLw_run) 7 = .ok (.i2l, 1) by decide +kernel) ?_
    obtain ⟨S6, e7, h⟩ := ob h
    refine v_last (pc := 8) e7 (show decode (tC tLw_run) 8 = .ok (.lastore, 1) by decide +kernel) ?_
    refine v_goto (pc := 9) 18 (show decode (tC tLw_run) 9 = .ok (.goto 9, 3) by decide +kernel) (by decide) ?_
    refine v_iconst (pc := 18) (v := 0) (show decode (tC tLw_run) 18 = .ok (.iconst 0, 1) by decide +kernel) (by decide) ?_
    obtain rfl := Option.some.inj h
    refine v_wide (ce2 := 1) (sl2 := 6) (Nat.le_of_ble_eq_true rfl) (Nat.le_of_ble_eq_true rfl) ?_
    exact v_iret (pc := 19) rfl (show decode (tC tLw_run) 19 = .ok (.ireturn, 1) by decide +kernel)
  · by_cases c0 : k3 = 2
    · replace h := ite_t c0 h
      subst c0
      refine v_callC (pc := 4) (k := 2) hk (y := yMp_run) (θ' := tMp_run) (rm := rMp_run) (av := [.ref x0, .int x1]) (st := [.int 0, .ref x2]) (cMp_run (l := gl Γ) hl e1) kMp_run iMp_run (iv_virt (y := yMp_run) (θ' := tMp_run) (kd := 0) (As := [.int x1]) rfl (ckd_of e2) kMp_run (gT_in 1027 (by decide +kernel) rfl) nMp_run lMp_run mMp_run rfl (show decode (tC tLw_run) 4 = .ok (.invokevirtual 61, 3) by decide +kernel)) ⟨by rw [hR]; decide, by rw [hR]; decide, by rw [hR]; decide, by rw [hR]; decide⟩ (Nat.le_of_ble_eq_true rfl) [] ⟨0, 9, 12, 15⟩ [⟨0, 9, 15, 13⟩] rfl (fun _ h => absurd h List.not_mem_nil) rfl (by decide) (gT_in 626 (by decide +kernel) rfl) (List.mem_of_getElem? (l := nC) (i := 1) rfl) (fun a8 => ?_)
      refine v_astore_n (pc := 12) [(3, .ref a8), (0, .ref x0), (1, .int x1), (2, .ref x2)] (show decode (tC tLw_run) 12 = .ok (.astore_n 3, 1) by decide +kernel) rfl (by decide) rfl ?_
      refine v_iconst (pc := 13) (v := 1) (show decode (tC tLw_run) 13 = .ok (.iconst 1, 1) by decide +kernel) (by decide) ?_
      obtain rfl := Option.some.inj h
      refine v_wide (ce2 := 1) (sl2 := 6) (Nat.le_of_ble_eq_true rfl) (Nat.le_of_ble_eq_true rfl) ?_
      exact v_iret (pc := 14) rfl (show decode (tC tLw_run) 14 = .ok (.ireturn, 1) by decide +kernel)
    · replace h := ite_f c0 h
      by_cases c1 : k3 = 1
      · replace h := ite_t c1 h
        subst c1
        refine v_callC (pc := 4) (k := 1) hk (y := yMp_run) (θ' := tMp_run) (rm := rMp_run) (av := [.ref x0, .int x1]) (st := [.int 0, .ref x2]) (cMp_run (l := gl Γ) hl e1) kMp_run iMp_run (iv_virt (y := yMp_run) (θ' := tMp_run) (kd := 0) (As := [.int x1]) rfl (ckd_of e2) kMp_run (gT_in 1027 (by decide +kernel) rfl) nMp_run lMp_run mMp_run rfl (show decode (tC tLw_run) 4 = .ok (.invokevirtual 61, 3) by decide +kernel)) ⟨by rw [hR]; decide, by rw [hR]; decide, by rw [hR]; decide, by rw [hR]; decide⟩ (Nat.le_of_ble_eq_true rfl) [⟨0, 9, 12, 15⟩] ⟨0, 9, 15, 13⟩ [] rfl (List.forall_mem_cons.mpr ⟨⟨rfl, by decide, _, (gT_in 626 (by decide +kernel) rfl), List.mem_of_getElem? (l := nX) (i := 0) rfl⟩, (fun _ h => absurd h List.not_mem_nil)⟩) rfl (by decide) (gT_in 625 (by decide +kernel) rfl) (List.mem_of_getElem? (l := nC) (i := 0) rfl) (fun a9 => ?_)
        refine v_astore_n (pc := 15) [(3, .ref a9), (0, .ref x0), (1, .int x1), (2, .ref x2)] (show decode (tC tLw_run) 15 = .ok (.astore_n 3, 1) by decide +kernel) rfl (by decide) rfl ?_
        refine v_iconst (pc := 16) (v := 2) (show decode (tC tLw_run) 16 = .ok (.iconst 2, 1) by decide +kernel) (by decide) ?_
        obtain rfl := Option.some.inj h
        refine v_wide (ce2 := 1) (sl2 := 6) (Nat.le_of_ble_eq_true rfl) (Nat.le_of_ble_eq_true rfl) ?_
        exact v_iret (pc := 17) rfl (show decode (tC tLw_run) 17 = .ok (.ireturn, 1) by decide +kernel)
      · replace h := ite_f c1 h
        cases h
theorem cLw_run {l : Launch} (hl : l.flags = pinnedFlags ++ [noTraceFlag]) {D : va_G} {dA : Nat → ClassId} {B : Nat} {x0 : Nat} {x1 : Int32} {x2 : Nat} {S : Sx} {X : Int32 × Sx} (h : fLw_run x0 x1 x2 S = some X) : Mx l yLw_run tLw_run rLw_run 1 6 D dA B S [.ref x0, .int x1, .ref x2] 0 (some (.int X.1)) X.2 :=
  mx_of hl (by decide) rfl rfl (Nat.le_of_ble_eq_true rfl) (fun Γ e1 e2 e3 e4 e5 => by subst e1; subst e3; subst e4; subst e5; exact wLw_run e2 hl x0 x1 x2 S h)
/-! MatchPipeLaw.word(LMatchPipe;II[J)I -/
def yLw_word : MethodName := ⟨"MatchPipeLaw", "word", "(LMatchPipe;II[J)I"⟩
def tLw_word : tM := (method_17_code, "MatchPipeLaw", 5, "word", some .int, [(0, 10, 13, 15)])
def rLw_word : Room := { frames := 8, cells := 1, slots := 6, locals := 152 }
theorem kLw_word : cOf yLw_word tLw_word ∈ gT := gT_in 1156 (by decide +kernel) (by decide +kernel)
theorem iLw_word : Cond.initialized yLw_word.cls ∈ gT := gT_in 54 (by decide +kernel) rfl
theorem mLw_word : okM yLw_word 4 := ⟨by decide, by decide, by unfold nPar; decide +kernel⟩
theorem sLw_word : Cond.static yLw_word ∈ gT := gT_in 1155 (by decide +kernel) rfl
def fLw_word (x0 : Nat) (x1 : Int32) (x2 : Int32) (x3 : Nat) (S : Sx) : Option (Int32 × Sx) :=
    (ckd S x0 0).bind fun _ =>
    bdC (fMp_word x0 x1 x2 S) (fun r4 S5 =>
    (qJ S5 x3 0 (Int32.toInt64 r4)).bind fun S6 =>
    some (0, S6))
    (fun k3 S5 =>
    if k3 = 2 then
    (some (1, S5))
    else  none)
set_option maxRecDepth 100000 in
set_option maxHeartbeats 4000000 in
theorem wLw_word {Γ : vG} (hR : gR Γ = rLw_word) (hl : (gl Γ).flags = pinnedFlags ++ [noTraceFlag]) (x0 : Nat) (x1 : Int32) (x2 : Int32) (x3 : Nat) (S : Sx) {X : Int32 × Sx} (h : fLw_word x0 x1 x2 x3 S = some X) : vV Γ tLw_word (mQ Γ 1 6 0 (some (.int X.1)) X.2) S 0 0 0 [(0, .ref x0), (1, .int x1), (2, .int x2), (3, .ref x3)] [] := by
  unfold fLw_word at h
  refine v_aload_n (pc := 0) (show decode (tC tLw_word) 0 = .ok (.aload_n 3, 1) by decide +kernel) 3 rfl rfl ?_
  refine v_iconst (pc := 1) (v := 0) (show decode (tC tLw_word) 1 = .ok (.iconst 0, 1) by decide +kernel) (by decide) ?_
  refine v_aload_n (pc := 2) (show decode (tC tLw_word) 2 = .ok (.aload_n 0, 1) by decide +kernel) 0 rfl rfl ?_
  refine v_iload_n (pc := 3) (show decode (tC tLw_word) 3 = .ok (.iload_n 1, 1) by decide +kernel) 1 rfl rfl ?_
  refine v_iload_n (pc := 4) (show decode (tC tLw_word) 4 = .ok (.iload_n 2, 1) by decide +kernel) 2 rfl rfl ?_
  obtain ⟨_, e2, h⟩ := ob h
  obtain ⟨k3, r4, S5, e1, ⟨hk, h⟩ | ⟨hk, h⟩⟩ := obC h
  · subst hk
    refine v_callR (pc := 5) (mc := 1) (ms := 6) (v := (some (.int r4))) (y := yMp_word) (θ' := tMp_word) (rm := rMp_word) (av := [.ref x0, .int x1, .int x2]) (st := [.int 0, .ref x3]) (cMp_word (l := gl Γ) hl e1) kMp_word iMp_word (iv_virt (y := yMp_word) (θ' := tMp_word) (kd := 0) (As := [.int x1, .int x2]) rfl (ckd_of e2) kMp_word (gT_in 1157 (by decide +kernel) rfl) nMp_word lMp_word mMp_word rfl (show decode (tC tLw_word) 5 = .ok (.invokevirtual 64, 3) by decide +kernel)) ⟨by rw [hR]; decide, by rw [hR]; decide, by rw [hR]; decide, by rw [hR]; decide⟩ (Nat.le_of_ble_eq_true rfl) ?_
    refine v_i2l (pc := 8) (show decode (tC tLw_word) 8 = .ok (.i2l, 1) by decide +kernel) ?_
    obtain ⟨S6, e7, h⟩ := ob h
    refine v_last (pc := 9) e7 (show decode (tC tLw_word) 9 = .ok (.lastore, 1) by decide +kernel) ?_
    refine v_goto (pc := 10) 17 (show decode (tC tLw_word) 10 = .ok (.goto 7, 3) by decide +kernel) (by decide) ?_
    refine v_iconst (pc := 17) (v := 0) (show decode (tC tLw_word) 17 = .ok (.iconst 0, 1) by decide +kernel) (by decide) ?_
    obtain rfl := Option.some.inj h
    refine v_wide (ce2 := 1) (sl2 := 6) (Nat.le_of_ble_eq_true rfl) (Nat.le_of_ble_eq_true rfl) ?_
    exact v_iret (pc := 18) rfl (show decode (tC tLw_word) 18 = .ok (.ireturn, 1) by decide +kernel)
  · by_cases c0 : k3 = 2
    · replace h := ite_t c0 h
      subst c0
      refine v_callC (pc := 5) (k := 2) hk (y := yMp_word) (θ' := tMp_word) (rm := rMp_word) (av := [.ref x0, .int x1, .int x2]) (st := [.int 0, .ref x3]) (cMp_word (l := gl Γ) hl e1) kMp_word iMp_word (iv_virt (y := yMp_word) (θ' := tMp_word) (kd := 0) (As := [.int x1, .int x2]) rfl (ckd_of e2) kMp_word (gT_in 1157 (by decide +kernel) rfl) nMp_word lMp_word mMp_word rfl (show decode (tC tLw_word) 5 = .ok (.invokevirtual 64, 3) by decide +kernel)) ⟨by rw [hR]; decide, by rw [hR]; decide, by rw [hR]; decide, by rw [hR]; decide⟩ (Nat.le_of_ble_eq_true rfl) [] ⟨0, 10, 13, 15⟩ [] rfl (fun _ h => absurd h List.not_mem_nil) rfl (by decide) (gT_in 626 (by decide +kernel) rfl) (List.mem_of_getElem? (l := nC) (i := 1) rfl) (fun a8 => ?_)
      refine v_astore (pc := 13) [(4, .ref a8), (0, .ref x0), (1, .int x1), (2, .int x2), (3, .ref x3)] (show decode (tC tLw_word) 13 = .ok (.astore 4, 2) by decide +kernel) (by decide) rfl ?_
      refine v_iconst (pc := 15) (v := 1) (show decode (tC tLw_word) 15 = .ok (.iconst 1, 1) by decide +kernel) (by decide) ?_
      obtain rfl := Option.some.inj h
      refine v_wide (ce2 := 1) (sl2 := 6) (Nat.le_of_ble_eq_true rfl) (Nat.le_of_ble_eq_true rfl) ?_
      exact v_iret (pc := 16) rfl (show decode (tC tLw_word) 16 = .ok (.ireturn, 1) by decide +kernel)
    · replace h := ite_f c0 h
      cases h
theorem cLw_word {l : Launch} (hl : l.flags = pinnedFlags ++ [noTraceFlag]) {D : va_G} {dA : Nat → ClassId} {B : Nat} {x0 : Nat} {x1 : Int32} {x2 : Int32} {x3 : Nat} {S : Sx} {X : Int32 × Sx} (h : fLw_word x0 x1 x2 x3 S = some X) : Mx l yLw_word tLw_word rLw_word 1 6 D dA B S [.ref x0, .int x1, .int x2, .ref x3] 0 (some (.int X.1)) X.2 :=
  mx_of hl (by decide) rfl rfl (Nat.le_of_ble_eq_true rfl) (fun Γ e1 e2 e3 e4 e5 => by subst e1; subst e3; subst e4; subst e5; exact wLw_word e2 hl x0 x1 x2 x3 S h)
/-! MatchPipeLaw.entries(LMatchPipe;I[J)I -/
def yLw_entries : MethodName := ⟨"MatchPipeLaw", "entries", "(LMatchPipe;I[J)I"⟩
def tLw_entries : tM := (method_18_code, "MatchPipeLaw", 4, "entries", some .int, [(0, 9, 12, 15)])
def rLw_entries : Room := { frames := 8, cells := 1, slots := 6, locals := 151 }
theorem kLw_entries : cOf yLw_entries tLw_entries ∈ gT := gT_in 1168 (by decide +kernel) (by decide +kernel)
theorem iLw_entries : Cond.initialized yLw_entries.cls ∈ gT := gT_in 54 (by decide +kernel) rfl
theorem mLw_entries : okM yLw_entries 3 := ⟨by decide, by decide, by unfold nPar; decide +kernel⟩
theorem sLw_entries : Cond.static yLw_entries ∈ gT := gT_in 1167 (by decide +kernel) rfl
def fLw_entries (x0 : Nat) (x1 : Int32) (x2 : Nat) (S : Sx) : Option (Int32 × Sx) :=
    (ckd S x0 0).bind fun _ =>
    bdC (fMp_entries x0 x1 S) (fun r4 S5 =>
    (qJ S5 x2 0 (Int32.toInt64 r4)).bind fun S6 =>
    some (0, S6))
    (fun k3 S5 =>
    if k3 = 2 then
    (some (1, S5))
    else  none)
set_option maxRecDepth 100000 in
set_option maxHeartbeats 4000000 in
theorem wLw_entries {Γ : vG} (hR : gR Γ = rLw_entries) (hl : (gl Γ).flags = pinnedFlags ++ [noTraceFlag]) (x0 : Nat) (x1 : Int32) (x2 : Nat) (S : Sx) {X : Int32 × Sx} (h : fLw_entries x0 x1 x2 S = some X) : vV Γ tLw_entries (mQ Γ 1 6 0 (some (.int X.1)) X.2) S 0 0 0 [(0, .ref x0), (1, .int x1), (2, .ref x2)] [] := by
  unfold fLw_entries at h
  refine v_aload_n (pc := 0) (show decode (tC tLw_entries) 0 = .ok (.aload_n 2, 1) by decide +kernel) 2 rfl rfl ?_
  refine v_iconst (pc := 1) (v := 0) (show decode (tC tLw_entries) 1 = .ok (.iconst 0, 1) by decide +kernel) (by decide) ?_
  refine v_aload_n (pc := 2) (show decode (tC tLw_entries) 2 = .ok (.aload_n 0, 1) by decide +kernel) 0 rfl rfl ?_
  refine v_iload_n (pc := 3) (show decode (tC tLw_entries) 3 = .ok (.iload_n 1, 1) by decide +kernel) 1 rfl rfl ?_
  obtain ⟨_, e2, h⟩ := ob h
  obtain ⟨k3, r4, S5, e1, ⟨hk, h⟩ | ⟨hk, h⟩⟩ := obC h
  · subst hk
    refine v_callR (pc := 4) (mc := 1) (ms := 6) (v := (some (.int r4))) (y := yMp_entries) (θ' := tMp_entries) (rm := rMp_entries) (av := [.ref x0, .int x1]) (st := [.int 0, .ref x2]) (cMp_entries (l := gl Γ) hl e1) kMp_entries iMp_entries (iv_virt (y := yMp_entries) (θ' := tMp_entries) (kd := 0) (As := [.int x1]) rfl (ckd_of e2) kMp_entries (gT_in 1169 (by decide +kernel) rfl) nMp_entries lMp_entries mMp_entries rfl (show decode (tC tLw_entries) 4 = .ok (.invokevirtual 68, 3) by decide +kernel)) ⟨by rw [hR]; decide, by rw [hR]; decide, by rw [hR]; decide, by rw [hR]; decide⟩ (Nat.le_of_ble_eq_true rfl) ?_
    refine v_i2l (pc := 7) (show decode (tC tLw_entries) 7 = .ok (.i2l, 1) by decide +kernel) ?_
    obtain ⟨S6, e7, h⟩ := ob h
    refine v_last (pc := 8) e7 (show decode (tC tLw_entries) 8 = .ok (.lastore, 1) by decide +kernel) ?_
    refine v_goto (pc := 9) 15 (show decode (tC tLw_entries) 9 = .ok (.goto 6, 3) by decide +kernel) (by decide) ?_
    refine v_iconst (pc := 15) (v := 0) (show decode (tC tLw_entries) 15 = .ok (.iconst 0, 1) by decide +kernel) (by decide) ?_
    obtain rfl := Option.some.inj h
    refine v_wide (ce2 := 1) (sl2 := 6) (Nat.le_of_ble_eq_true rfl) (Nat.le_of_ble_eq_true rfl) ?_
    exact v_iret (pc := 16) rfl (show decode (tC tLw_entries) 16 = .ok (.ireturn, 1) by decide +kernel)
  · by_cases c0 : k3 = 2
    · replace h := ite_t c0 h
      subst c0
      refine v_callC (pc := 4) (k := 2) hk (y := yMp_entries) (θ' := tMp_entries) (rm := rMp_entries) (av := [.ref x0, .int x1]) (st := [.int 0, .ref x2]) (cMp_entries (l := gl Γ) hl e1) kMp_entries iMp_entries (iv_virt (y := yMp_entries) (θ' := tMp_entries) (kd := 0) (As := [.int x1]) rfl (ckd_of e2) kMp_entries (gT_in 1169 (by decide +kernel) rfl) nMp_entries lMp_entries mMp_entries rfl (show decode (tC tLw_entries) 4 = .ok (.invokevirtual 68, 3) by decide +kernel)) ⟨by rw [hR]; decide, by rw [hR]; decide, by rw [hR]; decide, by rw [hR]; decide⟩ (Nat.le_of_ble_eq_true rfl) [] ⟨0, 9, 12, 15⟩ [] rfl (fun _ h => absurd h List.not_mem_nil) rfl (by decide) (gT_in 626 (by decide +kernel) rfl) (List.mem_of_getElem? (l := nC) (i := 1) rfl) (fun a8 => ?_)
      refine v_astore_n (pc := 12) [(3, .ref a8), (0, .ref x0), (1, .int x1), (2, .ref x2)] (show decode (tC tLw_entries) 12 = .ok (.astore_n 3, 1) by decide +kernel) rfl (by decide) rfl ?_
      refine v_iconst (pc := 13) (v := 1) (show decode (tC tLw_entries) 13 = .ok (.iconst 1, 1) by decide +kernel) (by decide) ?_
      obtain rfl := Option.some.inj h
      refine v_wide (ce2 := 1) (sl2 := 6) (Nat.le_of_ble_eq_true rfl) (Nat.le_of_ble_eq_true rfl) ?_
      exact v_iret (pc := 14) rfl (show decode (tC tLw_entries) 14 = .ok (.ireturn, 1) by decide +kernel)
    · replace h := ite_f c0 h
      cases h
theorem cLw_entries {l : Launch} (hl : l.flags = pinnedFlags ++ [noTraceFlag]) {D : va_G} {dA : Nat → ClassId} {B : Nat} {x0 : Nat} {x1 : Int32} {x2 : Nat} {S : Sx} {X : Int32 × Sx} (h : fLw_entries x0 x1 x2 S = some X) : Mx l yLw_entries tLw_entries rLw_entries 1 6 D dA B S [.ref x0, .int x1, .ref x2] 0 (some (.int X.1)) X.2 :=
  mx_of hl (by decide) rfl rfl (Nat.le_of_ble_eq_true rfl) (fun Γ e1 e2 e3 e4 e5 => by subst e1; subst e3; subst e4; subst e5; exact wLw_entries e2 hl x0 x1 x2 S h)
