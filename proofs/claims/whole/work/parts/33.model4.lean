theorem oF_Md_152 : okF "MatchPipeModel" 152 12 66 1 := ⟨_, rfl, by decide, gT_in 1245 (by decide +kernel) rfl, rfl⟩
theorem oF_Md_155 : okF "MatchPipeModel" 155 12 67 1 := ⟨_, rfl, by decide, gT_in 1246 (by decide +kernel) rfl, rfl⟩
theorem oF_Md_158 : okF "MatchPipeModel" 158 12 68 1 := ⟨_, rfl, by decide, gT_in 1247 (by decide +kernel) rfl, rfl⟩
theorem oF_Md_161 : okF "MatchPipeModel" 161 12 69 1 := ⟨_, rfl, by decide, gT_in 1248 (by decide +kernel) rfl, rfl⟩
theorem oF_Md_164 : okF "MatchPipeModel" 164 12 70 1 := ⟨_, rfl, by decide, gT_in 1249 (by decide +kernel) rfl, rfl⟩
theorem oF_Md_167 : okF "MatchPipeModel" 167 12 71 1 := ⟨_, rfl, by decide, gT_in 1250 (by decide +kernel) rfl, rfl⟩
/-! MatchPipeModel.doAll(III)V -/
def yMd_doAll : MethodName := ⟨"MatchPipeModel", "doAll", "(III)V"⟩
def tMd_doAll : tM := (prog_14_method_46_code, "MatchPipeModel", 9, "doAll", none, [])
def rMd_doAll : Room := { frames := 1, cells := 0, slots := 0, locals := 22 }
theorem kMd_doAll : cOf yMd_doAll tMd_doAll ∈ gT := gT_in 1617 (by decide +kernel) rfl
theorem iMd_doAll : Cond.initialized yMd_doAll.cls ∈ gT := gT_in 68 (by decide +kernel) rfl
theorem mMd_doAll : okM yMd_doAll 3 := ⟨by decide, by decide, by unfold nPar; decide +kernel⟩
theorem nMd_doAll : Cond.instanceMethod yMd_doAll ∈ gT := gT_in 1616 (by decide +kernel) rfl
theorem lMd_doAll : Cond.selects "MatchPipeModel" yMd_doAll yMd_doAll ∈ gT := gT_in 49 (by decide +kernel) rfl
def fMd_doAll_57 (k5 : Nat → Int32 → Int32 → Int32 → Int32 → Sx → Option (Sx)) (x0 : Nat) (x1 : Int32) (x2 : Int32) (x3 : Int32) (x4 : Int32) (x5 : Int32) (x6 : Int32) (x7 : Int32) (z0 : Int32) (S : Sx) : Option (Sx) :=
    (gX S 12 17 x0).bind fun v1 =>
    (aI S v1 x4).bind fun v3 =>
    if v3 = 0 then
    ((gX S 12 77 x0).bind fun v5 =>
    (ckd S x0 12).bind fun _ =>
    bd2 (fMd_cut x0 x5 x6 S) fun r9 S10 =>
    (qI S10 v5 x5 r9).bind fun S11 =>
    k5 x0 x1 x2 x3 (x4 + 1) S11)
    else if v3 = 1 then
    ((gX S 12 77 x0).bind fun v13 =>
    (gX S 12 77 x0).bind fun v15 =>
    (aI S v15 x6).bind fun v17 =>
    (ckd S x0 12).bind fun _ =>
    bd2 (fMd_cut x0 x5 v17 S) fun r21 S22 =>
    (qI S22 v13 x5 r21).bind fun S23 =>
    k5 x0 x1 x2 x3 (x4 + 1) S23)
    else if v3 = 2 then
    ((gX S 12 77 x0).bind fun v25 =>
    (gX S 12 77 x0).bind fun v27 =>
    (aI S v27 x5).bind fun v29 =>
    (gX S 12 77 x0).bind fun v31 =>
    (aI S v31 x6).bind fun v33 =>
    (ckd S x0 12).bind fun _ =>
    bd2 (fMd_cut x0 x5 ((v29 + v33) + x7) S) fun r37 S38 =>
    (qI S38 v25 x5 r37).bind fun S39 =>
    k5 x0 x1 x2 x3 (x4 + 1) S39)
    else if v3 = 3 then
    ((gX S 12 77 x0).bind fun v41 =>
    (ckd S x0 12).bind fun _ =>
    bd2 (fMd_cut x0 x5 z0 S) fun r45 S46 =>
    (qI S46 v41 x5 r45).bind fun S47 =>
    k5 x0 x1 x2 x3 (x4 + 1) S47)
    else if v3 = 4 then
    ((pI S 12 75 x0 x6).bind fun S49 =>
    k5 x0 x1 x2 x3 (x4 + 1) S49)
    else if v3 = 5 then
    ((pI S 12 75 x0 z0).bind fun S51 =>
    k5 x0 x1 x2 x3 (x4 + 1) S51)
    else if v3 = 6 then
    ((pZ S 12 76 x0 1).bind fun S53 =>
    k5 x0 x1 x2 x3 (x4 + 1) S53)
    else if v3 = 7 then
    ((gX S 12 44 x0).bind fun v55 =>
    (gX S 12 77 x0).bind fun v57 =>
    (aI S v57 x6).bind fun v59 =>
    (aI S v55 ((16 * x5) + (v59 &&& 15))).bind fun v61 =>
    (qI S v55 ((16 * x5) + (v59 &&& 15)) (v61 + x7)).bind fun S63 =>
    k5 x0 x1 x2 x3 (x4 + 1) S63)
    else 
    ((gX S 12 77 x0).bind fun v65 =>
    (gX S 12 44 x0).bind fun v67 =>
    (gX S 12 77 x0).bind fun v69 =>
    (aI S v69 x6).bind fun v71 =>
    (aI S v67 ((16 * x7) + (v71 &&& 15))).bind fun v73 =>
    (ckd S x0 12).bind fun _ =>
    bd2 (fMd_cut x0 x5 v73 S) fun r77 S78 =>
    (qI S78 v65 x5 r77).bind fun S79 =>
    k5 x0 x1 x2 x3 (x4 + 1) S79)
set_option maxRecDepth 100000 in
set_option maxHeartbeats 4000000 in
theorem wMd_doAll_57 {Γ : vG} (hR : gR Γ = rMd_doAll) (hl : (gl Γ).flags = pinnedFlags ++ [noTraceFlag]) {X : Sx} {k5 : Nat → Int32 → Int32 → Int32 → Int32 → Sx → Option (Sx)} (hk5 : ∀ (x0 : Nat) (x1 : Int32) (x2 : Int32) (x3 : Int32) (x4 : Int32) (S : Sx), k5 x0 x1 x2 x3 x4 S = some X → vV Γ tMd_doAll (mQ Γ 0 0 0 none X) S 0 0 5 [(0, .ref x0), (1, .int x1), (2, .int x2), (3, .int x3), (4, .int x4)] []) : ∀ (x0 : Nat) (x1 : Int32) (x2 : Int32) (x3 : Int32) (x4 : Int32) (x5 : Int32) (x6 : Int32) (x7 : Int32) (z0 : Int32) (S : Sx), fMd_doAll_57 k5 x0 x1 x2 x3 x4 x5 x6 x7 z0 S = some X → vV Γ tMd_doAll (mQ Γ 0 0 0 none X) S 0 0 57 [(0, .ref x0), (1, .int x1), (2, .int x2), (3, .int x3), (4, .int x4), (5, .int x5), (6, .int x6), (7, .int x7)] [.int z0] := by
  intro x0 x1 x2 x3 x4 x5 x6 x7 z0 S h
  unfold fMd_doAll_57 at h
  refine v_istore (pc := 57) [(8, .int z0), (0, .ref x0), (1, .int x1), (2, .int x2), (3, .int x3), (4, .int x4), (5, .int x5), (6, .int x6), (7, .int x7)] (show decode (tC tMd_doAll) 57 = .ok (.istore 8, 2) by decide +kernel) (by decide) rfl ?_
  refine v_aload_n (pc := 59) (show decode (tC tMd_doAll) 59 = .ok (.aload_n 0, 1) by decide +kernel) 1 rfl rfl ?_
  obtain ⟨v1, e2, h⟩ := ob h
  refine v_getX (pc := 60) oF_Md_37 e2 (show decode (tC tMd_doAll) 60 = .ok (.getfield 37, 3) by decide +kernel) ?_
  refine v_iload (pc := 63) (show decode (tC tMd_doAll) 63 = .ok (.iload 4, 2) by decide +kernel) 5 rfl ?_
  obtain ⟨v3, e4, h⟩ := ob h
  refine v_iald (pc := 65) e4 (show decode (tC tMd_doAll) 65 = .ok (.iaload, 1) by decide +kernel) ?_
  by_cases c0 : v3 = 0
  · replace h := ite_t c0 h
    refine v_tblIn (pc := 66) (off := 46) 112 (show decode (tC tMd_doAll) 66 = .ok (.tableswitch 194 0 7 #[46, 64, 87, 121, 139, 148, 157, 165], 46) by decide +kernel) (by rw [c0]; decide) (by rw [c0]; decide) (by rw [c0]; decide) (by decide) ?_
    refine v_aload_n (pc := 112) (show decode (tC tMd_doAll) 112 = .ok (.aload_n 0, 1) by decide +kernel) 1 rfl rfl ?_
    obtain ⟨v5, e6, h⟩ := ob h
    refine v_getX (pc := 113) oF_Md_174 e6 (show decode (tC tMd_doAll) 113 = .ok (.getfield 174, 3) by decide +kernel) ?_
    refine v_iload (pc := 116) (show decode (tC tMd_doAll) 116 = .ok (.iload 5, 2) by decide +kernel) 6 rfl ?_
    refine v_aload_n (pc := 118) (show decode (tC tMd_doAll) 118 = .ok (.aload_n 0, 1) by decide +kernel) 1 rfl rfl ?_
    refine v_iload (pc := 119) (show decode (tC tMd_doAll) 119 = .ok (.iload 5, 2) by decide +kernel) 6 rfl ?_
    refine v_iload (pc := 121) (show decode (tC tMd_doAll) 121 = .ok (.iload 6, 2) by decide +kernel) 7 rfl ?_
    obtain ⟨_, e8, h⟩ := ob h
    obtain ⟨r9, S10, e7, h⟩ := ob2 h
    refine v_call (pc := 123) (v := (some (.int r9))) (y := yMd_cut) (θ' := tMd_cut) (rm := rMd_cut) (av := [.ref x0, .int x5, .int x6]) (st := [.int x5, .ref v5]) (cMd_cut (l := gl Γ) hl e7) kMd_cut iMd_cut (iv_virt (y := yMd_cut) (θ' := tMd_cut) (kd := 12) (As := [.int x5, .int x6]) rfl (ckd_of e8) kMd_cut (gT_in 1566 (by decide +kernel) rfl) nMd_cut lMd_cut mMd_cut rfl (show decode (tC tMd_doAll) 123 = .ok (.invokevirtual 284, 3) by decide +kernel)) ⟨by rw [hR]; decide, by rw [hR]; decide, by rw [hR]; decide, by rw [hR]; decide⟩ (Nat.le_of_ble_eq_true rfl) ?_
    obtain ⟨S11, e12, h⟩ := ob h
    refine v_iast (pc := 126) e12 (show decode (tC tMd_doAll) 126 = .ok (.iastore, 1) by decide +kernel) ?_
    refine v_goto (pc := 127) 294 (show decode (tC tMd_doAll) 127 = .ok (.goto 167, 3) by decide +kernel) (by decide) ?_
    refine v_iinc (pc := 294) (j := 5) [(4, .int (x4 + 1)), (8, .int z0), (0, .ref x0), (1, .int x1), (2, .int x2), (3, .int x3), (5, .int x5), (6, .int x6), (7, .int x7)] (show decode (tC tMd_doAll) 294 = .ok (.iinc 4 1, 3) by decide +kernel) rfl rfl (by decide) rfl ?_
    refine v_goto (pc := 297) 5 (show decode (tC tMd_doAll) 297 = .ok (.goto (-292), 3) by decide +kernel) (by decide) ?_
    refine v_sub [(0, .ref x0), (1, .int x1), (2, .int x2), (3, .int x3), (4, .int (x4 + 1))] [2, 3, 4, 5, 0] rfl ?_
    exact hk5 x0 x1 x2 x3 (x4 + 1) S11 h
  · replace h := ite_f c0 h
    by_cases c1 : v3 = 1
    · replace h := ite_t c1 h
      refine v_tblIn (pc := 66) (off := 64) 130 (show decode (tC tMd_doAll) 66 = .ok (.tableswitch 194 0 7 #[46, 64, 87, 121, 139, 148, 157, 165], 46) by decide +kernel) (by rw [c1]; decide) (by rw [c1]; decide) (by rw [c1]; decide) (by decide) ?_
      refine v_aload_n (pc := 130) (show decode (tC tMd_doAll) 130 = .ok (.aload_n 0, 1) by decide +kernel) 1 rfl rfl ?_
      obtain ⟨v13, e14, h⟩ := ob h
      refine v_getX (pc := 131) oF_Md_174 e14 (show decode (tC tMd_doAll) 131 = .ok (.getfield 174, 3) by decide +kernel) ?_
      refine v_iload (pc := 134) (show decode (tC tMd_doAll) 134 = .ok (.iload 5, 2) by decide +kernel) 6 rfl ?_
      refine v_aload_n (pc := 136) (show decode (tC tMd_doAll) 136 = .ok (.aload_n 0, 1) by decide +kernel) 1 rfl rfl ?_
      refine v_iload (pc := 137) (show decode (tC tMd_doAll) 137 = .ok (.iload 5, 2) by decide +kernel) 6 rfl ?_
      refine v_aload_n (pc := 139) (show decode (tC tMd_doAll) 139 = .ok (.aload_n 0, 1) by decide +kernel) 1 rfl rfl ?_
      obtain ⟨v15, e16, h⟩ := ob h
      refine v_getX (pc := 140) oF_Md_174 e16 (show decode (tC tMd_doAll) 140 = .ok (.getfield 174, 3) by decide +kernel) ?_
      refine v_iload (pc := 143) (show decode (tC tMd_doAll) 143 = .ok (.iload 6, 2) by decide +kernel) 7 rfl ?_
      obtain ⟨v17, e18, h⟩ := ob h
      refine v_iald (pc := 145) e18 (show decode (tC tMd_doAll) 145 = .ok (.iaload, 1) by decide +kernel) ?_
      obtain ⟨_, e20, h⟩ := ob h
      obtain ⟨r21, S22, e19, h⟩ := ob2 h
      refine v_call (pc := 146) (v := (some (.int r21))) (y := yMd_cut) (θ' := tMd_cut) (rm := rMd_cut) (av := [.ref x0, .int x5, .int v17]) (st := [.int x5, .ref v13]) (cMd_cut (l := gl Γ) hl e19) kMd_cut iMd_cut (iv_virt (y := yMd_cut) (θ' := tMd_cut) (kd := 12) (As := [.int x5, .int v17]) rfl (ckd_of e20) kMd_cut (gT_in 1566 (by decide +kernel) rfl) nMd_cut lMd_cut mMd_cut rfl (show decode (tC tMd_doAll) 146 = .ok (.invokevirtual 284, 3) by decide +kernel)) ⟨by rw [hR]; decide, by rw [hR]; decide, by rw [hR]; decide, by rw [hR]; decide⟩ (Nat.le_of_ble_eq_true rfl) ?_
      obtain ⟨S23, e24, h⟩ := ob h
      refine v_iast (pc := 149) e24 (show decode (tC tMd_doAll) 149 = .ok (.iastore, 1) by decide +kernel) ?_
      refine v_goto (pc := 150) 294 (show decode (tC tMd_doAll) 150 = .ok (.goto 144, 3) by decide +kernel) (by decide) ?_
      refine v_iinc (pc := 294) (j := 5) [(4, .int (x4 + 1)), (8, .int z0), (0, .ref x0), (1, .int x1), (2, .int x2), (3, .int x3), (5, .int x5), (6, .int x6), (7, .int x7)] (show decode (tC tMd_doAll) 294 = .ok (.iinc 4 1, 3) by decide +kernel) rfl rfl (by decide) rfl ?_
      refine v_goto (pc := 297) 5 (show decode (tC tMd_doAll) 297 = .ok (.goto (-292), 3) by decide +kernel) (by decide) ?_
      refine v_sub [(0, .ref x0), (1, .int x1), (2, .int x2), (3, .int x3), (4, .int (x4 + 1))] [2, 3, 4, 5, 0] rfl ?_
      exact hk5 x0 x1 x2 x3 (x4 + 1) S23 h
    · replace h := ite_f c1 h
      by_cases c2 : v3 = 2
      · replace h := ite_t c2 h
        refine v_tblIn (pc := 66) (off := 87) 153 (show decode (tC tMd_doAll) 66 = .ok (.tableswitch 194 0 7 #[46, 64, 87, 121, 139, 148, 157, 165], 46) by decide +kernel) (by rw [c2]; decide) (by rw [c2]; decide) (by rw [c2]; decide) (by decide) ?_
        refine v_aload_n (pc := 153) (show decode (tC tMd_doAll) 153 = .ok (.aload_n 0, 1) by decide +kernel) 1 rfl rfl ?_
        obtain ⟨v25, e26, h⟩ := ob h
        refine v_getX (pc := 154) oF_Md_174 e26 (show decode (tC tMd_doAll) 154 = .ok (.getfield 174, 3) by decide +kernel) ?_
        refine v_iload (pc := 157) (show decode (tC tMd_doAll) 157 = .ok (.iload 5, 2) by decide +kernel) 6 rfl ?_
        refine v_aload_n (pc := 159) (show decode (tC tMd_doAll) 159 = .ok (.aload_n 0, 1) by decide +kernel) 1 rfl rfl ?_
        refine v_iload (pc := 160) (show decode (tC tMd_doAll) 160 = .ok (.iload 5, 2) by decide +kernel) 6 rfl ?_
        refine v_aload_n (pc := 162) (show decode (tC tMd_doAll) 162 = .ok (.aload_n 0, 1) by decide +kernel) 1 rfl rfl ?_
        obtain ⟨v27, e28, h⟩ := ob h
        refine v_getX (pc := 163) oF_Md_174 e28 (show decode (tC tMd_doAll) 163 = .ok (.getfield 174, 3) by decide +kernel) ?_
        refine v_iload (pc := 166) (show decode (tC tMd_doAll) 166 = .ok (.iload 5, 2) by decide +kernel) 6 rfl ?_
        obtain ⟨v29, e30, h⟩ := ob h
        refine v_iald (pc := 168) e30 (show decode (tC tMd_doAll) 168 = .ok (.iaload, 1) by decide +kernel) ?_
        refine v_aload_n (pc := 169) (show decode (tC tMd_doAll) 169 = .ok (.aload_n 0, 1) by decide +kernel) 1 rfl rfl ?_
        obtain ⟨v31, e32, h⟩ := ob h
        refine v_getX (pc := 170) oF_Md_174 e32 (show decode (tC tMd_doAll) 170 = .ok (.getfield 174, 3) by decide +kernel) ?_
        refine v_iload (pc := 173) (show decode (tC tMd_doAll) 173 = .ok (.iload 6, 2) by decide +kernel) 7 rfl ?_
        obtain ⟨v33, e34, h⟩ := ob h
        refine v_iald (pc := 175) e34 (show decode (tC tMd_doAll) 175 = .ok (.iaload, 1) by decide +kernel) ?_
        refine v_iadd (pc := 176) (show decode (tC tMd_doAll) 176 = .ok (.iadd, 1) by decide +kernel) ?_
        refine v_iload (pc := 177) (show decode (tC tMd_doAll) 177 = .ok (.iload 7, 2) by decide +kernel) 8 rfl ?_
        refine v_iadd (pc := 179) (show decode (tC tMd_doAll) 179 = .ok (.iadd, 1) by decide +kernel) ?_
        obtain ⟨_, e36, h⟩ := ob h
        obtain ⟨r37, S38, e35, h⟩ := ob2 h
        refine v_call (pc := 180) (v := (some (.int r37))) (y := yMd_cut) (θ' := tMd_cut) (rm := rMd_cut) (av := [.ref x0, .int x5, .int ((v29 + v33) + x7)]) (st := [.int x5, .ref v25]) (cMd_cut (l := gl Γ) hl e35) kMd_cut iMd_cut (iv_virt (y := yMd_cut) (θ' := tMd_cut) (kd := 12) (As := [.int x5, .int ((v29 + v33) + x7)]) rfl (ckd_of e36) kMd_cut (gT_in 1566 (by decide +kernel) rfl) nMd_cut lMd_cut mMd_cut rfl (show decode (tC tMd_doAll) 180 = .ok (.invokevirtual 284, 3) by decide +kernel)) ⟨by rw [hR]; decide, by rw [hR]; decide, by rw [hR]; decide, by rw [hR]; decide⟩ (Nat.le_of_ble_eq_true rfl) ?_
        obtain ⟨S39, e40, h⟩ := ob h
        refine v_iast (pc := 183) e40 (show decode (tC tMd_doAll) 183 = .ok (.iastore, 1) by decide +kernel) ?_
        refine v_goto (pc := 184) 294 (show decode (tC tMd_doAll) 184 = .ok (.goto 110, 3) by decide +kernel) (by decide) ?_
        refine v_iinc (pc := 294) (j := 5) [(4, .int (x4 + 1)), (8, .int z0), (0, .ref x0), (1, .int x1), (2, .int x2), (3, .int x3), (5, .int x5), (6, .int x6), (7, .int x7)] (show decode (tC tMd_doAll) 294 = .ok (.iinc 4 1, 3) by decide +kernel) rfl rfl (by decide) rfl ?_
        refine v_goto (pc := 297) 5 (show decode (tC tMd_doAll) 297 = .ok (.goto (-292), 3) by decide +kernel) (by decide) ?_
        refine v_sub [(0, .ref x0), (1, .int x1), (2, .int x2), (3, .int x3), (4, .int (x4 + 1))] [2, 3, 4, 5, 0] rfl ?_
        exact hk5 x0 x1 x2 x3 (x4 + 1) S39 h
      · replace h := ite_f c2 h
        by_cases c3 : v3 = 3
        · replace h := ite_t c3 h
          refine v_tblIn (pc := 66) (off := 121) 187 (show decode (tC tMd_doAll) 66 = .ok (.tableswitch 194 0 7 #[46, 64, 87, 121, 139, 148, 157, 165], 46) by decide +kernel) (by rw [c3]; decide) (by rw [c3]; decide) (by rw [c3]; decide) (by decide) ?_
          refine v_aload_n (pc := 187) (show decode (tC tMd_doAll) 187 = .ok (.aload_n 0, 1) by decide +kernel) 1 rfl rfl ?_
          obtain ⟨v41, e42, h⟩ := ob h
          refine v_getX (pc := 188) oF_Md_174 e42 (show decode (tC tMd_doAll) 188 = .ok (.getfield 174, 3) by decide +kernel) ?_
          refine v_iload (pc := 191) (show decode (tC tMd_doAll) 191 = .ok (.iload 5, 2) by decide +kernel) 6 rfl ?_
          refine v_aload_n (pc := 193) (show decode (tC tMd_doAll) 193 = .ok (.aload_n 0, 1) by decide +kernel) 1 rfl rfl ?_
          refine v_iload (pc := 194) (show decode (tC tMd_doAll) 194 = .ok (.iload 5, 2) by decide +kernel) 6 rfl ?_
          refine v_iload (pc := 196) (show decode (tC tMd_doAll) 196 = .ok (.iload 8, 2) by decide +kernel) 0 rfl ?_
          obtain ⟨_, e44, h⟩ := ob h
          obtain ⟨r45, S46, e43, h⟩ := ob2 h
          refine v_call (pc := 198) (v := (some (.int r45))) (y := yMd_cut) (θ' := tMd_cut) (rm := rMd_cut) (av := [.ref x0, .int x5, .int z0]) (st := [.int x5, .ref v41]) (cMd_cut (l := gl Γ) hl e43) kMd_cut iMd_cut (iv_virt (y := yMd_cut) (θ' := tMd_cut) (kd := 12) (As := [.int x5, .int z0]) rfl (ckd_of e44) kMd_cut (gT_in 1566 (by decide +kernel) rfl) nMd_cut lMd_cut mMd_cut rfl (show decode (tC tMd_doAll) 198 = .ok (.invokevirtual 284, 3) by decide +kernel)) ⟨by rw [hR]; decide, by rw [hR]; decide, by rw [hR]; decide, by rw [hR]; decide⟩ (Nat.le_of_ble_eq_true rfl) ?_
          obtain ⟨S47, e48, h⟩ := ob h
          refine v_iast (pc := 201) e48 (show decode (tC tMd_doAll) 201 = .ok (.iastore, 1) by decide +kernel) ?_
          refine v_goto (pc := 202) 294 (show decode (tC tMd_doAll) 202 = .ok (.goto 92, 3) by decide +kernel) (by decide) ?_
          refine v_iinc (pc := 294) (j := 5) [(4, .int (x4 + 1)), (8, .int z0), (0, .ref x0), (1, .int x1), (2, .int x2), (3, .int x3), (5, .int x5), (6, .int x6), (7, .int x7)] (show decode (tC tMd_doAll) 294 = .ok (.iinc 4 1, 3) by decide +kernel) rfl rfl (by decide) rfl ?_
          refine v_goto (pc := 297) 5 (show decode (tC tMd_doAll) 297 = .ok (.goto (-292), 3) by decide +kernel) (by decide) ?_
          refine v_sub [(0, .ref x0), (1, .int x1), (2, .int x2), (3, .int x3), (4, .int (x4 + 1))] [2, 3, 4, 5, 0] rfl ?_
          exact hk5 x0 x1 x2 x3 (x4 + 1) S47 h
        · replace h := ite_f c3 h
          by_cases c4 : v3 = 4
          · replace h := ite_t c4 h
            refine v_tblIn (pc := 66) (off := 139) 205 (show decode (tC tMd_doAll) 66 = .ok (.tableswitch 194 0 7 #[46, 64, 87, 121, 139, 148, 157, 165], 46) by decide +kernel) (by rw [c4]; decide) (by rw [c4]; decide) (by rw [c4]; decide) (by decide) ?_
            refine v_aload_n (pc := 205) (show decode (tC tMd_doAll) 205 = .ok (.aload_n 0, 1) by decide +kernel) 1 rfl rfl ?_
            refine v_iload (pc := 206) (show decode (tC tMd_doAll) 206 = .ok (.iload 6, 2) by decide +kernel) 7 rfl ?_
            obtain ⟨S49, e50, h⟩ := ob h
            refine v_putI (pc := 208) oF_Md_304 (fin_ok (kd := 12) (k := 75) (by decide +kernel)) e50 (show decode (tC tMd_doAll) 208 = .ok (.putfield 304, 3) by decide +kernel) ?_
            refine v_goto (pc := 211) 294 (show decode (tC tMd_doAll) 211 = .ok (.goto 83, 3) by decide +kernel) (by decide) ?_
            refine v_iinc (pc := 294) (j := 5) [(4, .int (x4 + 1)), (8, .int z0), (0, .ref x0), (1, .int x1), (2, .int x2), (3, .int x3), (5, .int x5), (6, .int x6), (7, .int x7)] (show decode (tC tMd_doAll) 294 = .ok (.iinc 4 1, 3) by decide +kernel) rfl rfl (by decide) rfl ?_
            refine v_goto (pc := 297) 5 (show decode (tC tMd_doAll) 297 = .ok (.goto (-292), 3) by decide +kernel) (by decide) ?_
            refine v_sub [(0, .ref x0), (1, .int x1), (2, .int x2), (3, .int x3), (4, .int (x4 + 1))] [2, 3, 4, 5, 0] rfl ?_
            exact hk5 x0 x1 x2 x3 (x4 + 1) S49 h
          · replace h := ite_f c4 h
            by_cases c5 : v3 = 5
            · replace h := ite_t c5 h
              refine v_tblIn (pc := 66) (off := 148) 214 (show decode (tC tMd_doAll) 66 = .ok (.tableswitch 194 0 7 #[46, 64, 87, 121, 139, 148, 157, 165], 46) by decide +kernel) (by rw [c5]; decide) (by rw [c5]; decide) (by rw [c5]; decide) (by decide) ?_
              refine v_aload_n (pc := 214) (show decode (tC tMd_doAll) 214 = .ok (.aload_n 0, 1) by decide +kernel) 1 rfl rfl ?_
              refine v_iload (pc := 215) (show decode (tC tMd_doAll) 215 = .ok (.iload 8, 2) by decide +kernel) 0 rfl ?_
              obtain ⟨S51, e52, h⟩ := ob h
              refine v_putI (pc := 217) oF_Md_304 (fin_ok (kd := 12) (k := 75) (by decide +kernel)) e52 (show decode (tC tMd_doAll) 217 = .ok (.putfield 304, 3) by decide +kernel) ?_
              refine v_goto (pc := 220) 294 (show decode (tC tMd_doAll) 220 = .ok (.goto 74, 3) by decide +kernel) (by decide) ?_
              refine v_iinc (pc := 294) (j := 5) [(4, .int (x4 + 1)), (8, .int z0), (0, .ref x0), (1, .int x1), (2, .int x2), (3, .int x3), (5, .int x5), (6, .int x6), (7, .int x7)] (show decode (tC tMd_doAll) 294 = .ok (.iinc 4 1, 3) by decide +kernel) rfl rfl (by decide) rfl ?_
              refine v_goto (pc := 297) 5 (show decode (tC tMd_doAll) 297 = .ok (.goto (-292), 3) by decide +kernel) (by decide) ?_
              refine v_sub [(0, .ref x0), (1, .int x1), (2, .int x2), (3, .int x3), (4, .int (x4 + 1))] [2, 3, 4, 5, 0] rfl ?_
              exact hk5 x0 x1 x2 x3 (x4 + 1) S51 h
            · replace h := ite_f c5 h
              by_cases c6 : v3 = 6
              · replace h := ite_t c6 h
                refine v_tblIn (pc := 66) (off := 157) 223 (show decode (tC tMd_doAll) 66 = .ok (.tableswitch 194 0 7 #[46, 64, 87, 121, 139, 148, 157, 165], 46) by decide +kernel) (by rw [c6]; decide) (by rw [c6]; decide) (by rw [c6]; decide) (by decide) ?_
                refine v_aload_n (pc := 223) (show decode (tC tMd_doAll) 223 = .ok (.aload_n 0, 1) by decide +kernel) 1 rfl rfl ?_
                refine v_iconst (pc := 224) (v := 1) (show decode (tC tMd_doAll) 224 = .ok (.iconst 1, 1) by decide +kernel) (by decide) ?_
                obtain ⟨S53, e54, h⟩ := ob h
                refine v_putZ (pc := 225) oF_Md_307 (fin_ok (kd := 12) (k := 76) (by decide +kernel)) e54 (show decode (tC tMd_doAll) 225 = .ok (.putfield 307, 3) by decide +kernel) ?_
                refine v_goto (pc := 228) 294 (show decode (tC tMd_doAll) 228 = .ok (.goto 66, 3) by decide +kernel) (by decide) ?_
                refine v_iinc (pc := 294) (j := 5) [(4, .int (x4 + 1)), (8, .int z0), (0, .ref x0), (1, .int x1), (2, .int x2), (3, .int x3), (5, .int x5), (6, .int x6), (7, .int x7)] (show decode (tC tMd_doAll) 294 = .ok (.iinc 4 1, 3) by decide +kernel) rfl rfl (by decide) rfl ?_
                refine v_goto (pc := 297) 5 (show decode (tC tMd_doAll) 297 = .ok (.goto (-292), 3) by decide +kernel) (by decide) ?_
                refine v_sub [(0, .ref x0), (1, .int x1), (2, .int x2), (3, .int x3), (4, .int (x4 + 1))] [2, 3, 4, 5, 0] rfl ?_
                exact hk5 x0 x1 x2 x3 (x4 + 1) S53 h
              · replace h := ite_f c6 h
                by_cases c7 : v3 = 7
                · replace h := ite_t c7 h
                  refine v_tblIn (pc := 66) (off := 165) 231 (show decode (tC tMd_doAll) 66 = .ok (.tableswitch 194 0 7 #[46, 64, 87, 121, 139, 148, 157, 165], 46) by decide +kernel) (by rw [c7]; decide) (by rw [c7]; decide) (by rw [c7]; decide) (by decide) ?_
                  refine v_aload_n (pc := 231) (show decode (tC tMd_doAll) 231 = .ok (.aload_n 0, 1) by decide +kernel) 1 rfl rfl ?_
                  obtain ⟨v55, e56, h⟩ := ob h
                  refine v_getX (pc := 232) oF_Md_116 e56 (show decode (tC tMd_doAll) 232 = .ok (.getfield 116, 3) by decide +kernel) ?_
                  refine v_bipush (pc := 235) (v := 16) (show decode (tC tMd_doAll) 235 = .ok (.bipush 16, 2) by decide +kernel) (by decide) ?_
                  refine v_iload (pc := 237) (show decode (tC tMd_doAll) 237 = .ok (.iload 5, 2) by decide +kernel) 6 rfl ?_
                  refine v_imul (pc := 239) (show decode (tC tMd_doAll) 239 = .ok (.imul, 1) by decide +kernel) ?_
                  refine v_aload_n (pc := 240) (show decode (tC tMd_doAll) 240 = .ok (.aload_n 0, 1) by decide +kernel) 1 rfl rfl ?_
                  obtain ⟨v57, e58, h⟩ := ob h
                  refine v_getX (pc := 241) oF_Md_174 e58 (show decode (tC tMd_doAll) 241 = .ok (.getfield 174, 3) by decide +kernel) ?_
                  refine v_iload (pc := 244) (show decode (tC tMd_doAll) 244 = .ok (.iload 6, 2) by decide +kernel) 7 rfl ?_
                  obtain ⟨v59, e60, h⟩ := ob h
                  refine v_iald (pc := 246) e60 (show decode (tC tMd_doAll) 246 = .ok (.iaload, 1) by decide +kernel) ?_
                  refine v_bipush (pc := 247) (v := 15) (show decode (tC tMd_doAll) 247 = .ok (.bipush 15, 2) by decide +kernel) (by decide) ?_
                  refine v_iand (pc := 249) (show decode (tC tMd_doAll) 249 = .ok (.iand, 1) by decide +kernel) ?_
                  refine v_iadd (pc := 250) (show decode (tC tMd_doAll) 250 = .ok (.iadd, 1) by decide +kernel) ?_
                  refine v_dup2_11 (pc := 251) (show decode (tC tMd_doAll) 251 = .ok (.dup2, 1) by decide +kernel) rfl rfl ?_
                  obtain ⟨v61, e62, h⟩ := ob h
                  refine v_iald (pc := 252) e62 (show decode (tC tMd_doAll) 252 = .ok (.iaload, 1) by decide +kernel) ?_
                  refine v_iload (pc := 253) (show decode (tC tMd_doAll) 253 = .ok (.iload 7, 2) by decide +kernel) 8 rfl ?_
                  refine v_iadd (pc := 255) (show decode (tC tMd_doAll) 255 = .ok (.iadd, 1) by decide +kernel) ?_
                  obtain ⟨S63, e64, h⟩ := ob h
                  refine v_iast (pc := 256) e64 (show decode (tC tMd_doAll) 256 = .ok (.iastore, 1) by decide +kernel) ?_
                  refine v_goto (pc := 257) 294 (show decode (tC tMd_doAll) 257 = .ok (.goto 37, 3) by decide +kernel) (by decide) ?_
                  refine v_iinc (pc := 294) (j := 5) [(4, .int (x4 + 1)), (8, .int z0), (0, .ref x0), (1, .int x1), (2, .int x2), (3, .int x3), (5, .int x5), (6, .int x6), (7, .int x7)] (show decode (tC tMd_doAll) 294 = .ok (.iinc 4 1, 3) by decide +kernel) rfl rfl (by decide) rfl ?_
                  refine v_goto (pc := 297) 5 (show decode (tC tMd_doAll) 297 = .ok (.goto (-292), 3) by decide +kernel) (by decide) ?_
                  refine v_sub [(0, .ref x0), (1, .int x1), (2, .int x2), (3, .int x3), (4, .int (x4 + 1))] [2, 3, 4, 5, 0] rfl ?_
                  exact hk5 x0 x1 x2 x3 (x4 + 1) S63 h
                · replace h := ite_f c7 h
                  refine v_tblOut (pc := 66) 260 (show decode (tC tMd_doAll) 66 = .ok (.tableswitch 194 0 7 #[46, 64, 87, 121, 139, 148, 157, 165], 46) by decide +kernel) (tbl_out 8 (fun i hi => match i, hi with | 0, _ => by have := toInt_ne c0; exact this | 1, _ => by have := toInt_ne c1; exact this | 2, _ => by have := toInt_ne c2; exact this | 3, _ => by have := toInt_ne c3; exact this | 4, _ => by have := toInt_ne c4; exact this | 5, _ => by have := toInt_ne c5; exact this | 6, _ => by have := toInt_ne c6; exact this | 7, _ => by have := toInt_ne c7; exact this | i + 8, hi => absurd hi (by omega)) (by decide)) (by decide) ?_
                  refine v_aload_n (pc := 260) (show decode (tC tMd_doAll) 260 = .ok (.aload_n 0, 1) by decide +kernel) 1 rfl rfl ?_
                  obtain ⟨v65, e66, h⟩ := ob h
                  refine v_getX (pc := 261) oF_Md_174 e66 (show decode (tC tMd_doAll) 261 = .ok (.getfield 174, 3) by decide +kernel) ?_
                  refine v_iload (pc := 264) (show decode (tC tMd_doAll) 264 = .ok (.iload 5, 2) by decide +kernel) 6 rfl ?_
                  refine v_aload_n (pc := 266) (show decode (tC tMd_doAll) 266 = .ok (.aload_n 0, 1) by decide +kernel) 1 rfl rfl ?_
                  refine v_iload (pc := 267) (show decode (tC tMd_doAll) 267 = .ok (.iload 5, 2) by decide +kernel) 6 rfl ?_
                  refine v_aload_n (pc := 269) (show decode (tC tMd_doAll) 269 = .ok (.aload_n 0, 1) by decide +kernel) 1 rfl rfl ?_
                  obtain ⟨v67, e68, h⟩ := ob h
                  refine v_getX (pc := 270) oF_Md_116 e68 (show decode (tC tMd_doAll) 270 = .ok (.getfield 116, 3) by decide +kernel) ?_
                  refine v_bipush (pc := 273) (v := 16) (show decode (tC tMd_doAll) 273 = .ok (.bipush 16, 2) by decide +kernel) (by decide) ?_
                  refine v_iload (pc := 275) (show decode (tC tMd_doAll) 275 = .ok (.iload 7, 2) by decide +kernel) 8 rfl ?_
                  refine v_imul (pc := 277) (show decode (tC tMd_doAll) 277 = .ok (.imul, 1) by decide +kernel) ?_
                  refine v_aload_n (pc := 278) (show decode (tC tMd_doAll) 278 = .ok (.aload_n 0, 1) by decide +kernel) 1 rfl rfl ?_
                  obtain ⟨v69, e70, h⟩ := ob h
                  refine v_getX (pc := 279) oF_Md_174 e70 (show decode (tC tMd_doAll) 279 = .ok (.getfield 174, 3) by decide +kernel) ?_
                  refine v_iload (pc := 282) (show decode (tC tMd_doAll) 282 = .ok (.iload 6, 2) by decide +kernel) 7 rfl ?_
                  obtain ⟨v71, e72, h⟩ := ob h
                  refine v_iald (pc := 284) e72 (show decode (tC tMd_doAll) 284 = .ok (.iaload, 1) by decide +kernel) ?_
                  refine v_bipush (pc := 285) (v := 15) (show decode (tC tMd_doAll) 285 = .ok (.bipush 15, 2) by decide +kernel) (by decide) ?_
                  refine v_iand (pc := 287) (show decode (tC tMd_doAll) 287 = .ok (.iand, 1) by decide +kernel) ?_
                  refine v_iadd (pc := 288) (show decode (tC tMd_doAll) 288 = .ok (.iadd, 1) by decide +kernel) ?_
                  obtain ⟨v73, e74, h⟩ := ob h
                  refine v_iald (pc := 289) e74 (show decode (tC tMd_doAll) 289 = .ok (.iaload, 1) by decide +kernel) ?_
                  obtain ⟨_, e76, h⟩ := ob h
                  obtain ⟨r77, S78, e75, h⟩ := ob2 h
                  refine v_call (pc := 290) (v := (some (.int r77))) (y := yMd_cut) (θ' := tMd_cut) (rm := rMd_cut) (av := [.ref x0, .int x5, .int v73]) (st := [.int x5, .ref v65]) (cMd_cut (l := gl Γ) hl e75) kMd_cut iMd_cut (iv_virt (y := yMd_cut) (θ' := tMd_cut) (kd := 12) (As := [.int x5, .int v73]) rfl (ckd_of e76) kMd_cut (gT_in 1566 (by decide +kernel) rfl) nMd_cut lMd_cut mMd_cut rfl (show decode (tC tMd_doAll) 290 = .ok (.invokevirtual 284, 3) by decide +kernel)) ⟨by rw [hR]; decide, by rw [hR]; decide, by rw [hR]; decide, by rw [hR]; decide⟩ (Nat.le_of_ble_eq_true rfl) ?_
                  obtain ⟨S79, e80, h⟩ := ob h
                  refine v_iast (pc := 293) e80 (show decode (tC tMd_doAll) 293 = .ok (.iastore, 1) by decide +kernel) ?_
                  refine v_iinc (pc := 294) (j := 5) [(4, .int (x4 + 1)), (8, .int z0), (0, .ref x0), (1, .int x1), (2, .int x2), (3, .int x3), (5, .int x5), (6, .int x6), (7, .int x7)] (show decode (tC tMd_doAll) 294 = .ok (.iinc 4 1, 3) by decide +kernel) rfl rfl (by decide) rfl ?_
                  refine v_goto (pc := 297) 5 (show decode (tC tMd_doAll) 297 = .ok (.goto (-292), 3) by decide +kernel) (by decide) ?_
                  refine v_sub [(0, .ref x0), (1, .int x1), (2, .int x2), (3, .int x3), (4, .int (x4 + 1))] [2, 3, 4, 5, 0] rfl ?_
                  exact hk5 x0 x1 x2 x3 (x4 + 1) S79 h
def fMd_doAll_5  : Nat → Nat → Int32 → Int32 → Int32 → Int32 → Sx → Option (Sx)
  | 0, _, _, _, _, _, _ => none
  | n + 1, x0, x1, x2, x3, x4, S =>
    (gX S 12 16 x0).bind fun v1 =>
    (aI S v1 x1).bind fun v3 =>
    if ((4 * x1) + v3) ≤ x4 then
    (some S)
    else
    ((gX S 12 18 x0).bind fun v5 =>
    (aI S v5 x4).bind fun v7 =>
    (gX S 12 19 x0).bind fun v9 =>
    (aI S v9 x4).bind fun v11 =>
    (gX S 12 20 x0).bind fun v13 =>
    (aI S v13 x4).bind fun v15 =>
    if v11 = 0 then
    (fMd_doAll_57 (fun y0 y1 y2 y3 y4 T => fMd_doAll_5 n y0 y1 y2 y3 y4 T) x0 x1 x2 x3 x4 v7 v11 v15 x2 S)
    else
    (fMd_doAll_57 (fun y0 y1 y2 y3 y4 T => fMd_doAll_5 n y0 y1 y2 y3 y4 T) x0 x1 x2 x3 x4 v7 v11 v15 x3 S))
set_option maxRecDepth 100000 in
set_option maxHeartbeats 4000000 in
theorem wMd_doAll_5 {Γ : vG} (hR : gR Γ = rMd_doAll) (hl : (gl Γ).flags = pinnedFlags ++ [noTraceFlag]) {X : Sx}  : ∀ (n : Nat) (x0 : Nat) (x1 : Int32) (x2 : Int32) (x3 : Int32) (x4 : Int32) (S : Sx), fMd_doAll_5  n x0 x1 x2 x3 x4 S = some X → vV Γ tMd_doAll (mQ Γ 0 0 0 none X) S 0 0 5 [(0, .ref x0), (1, .int x1), (2, .int x2), (3, .int x3), (4, .int x4)] [] := by
  intro n
  induction n with
  | zero => intro x0 x1 x2 x3 x4 S h; rw [fMd_doAll_5] at h; cases h
  | succ n ih =>
    intro x0 x1 x2 x3 x4 S h
    rw [fMd_doAll_5] at h
    refine v_iload (pc := 5) (show decode (tC tMd_doAll) 5 = .ok (.iload 4, 2) by decide +kernel) 4 rfl ?_
    refine v_iconst (pc := 7) (v := 4) (show decode (tC tMd_doAll) 7 = .ok (.iconst 4, 1) by decide +kernel) (by decide) ?_
    refine v_iload_n (pc := 8) (show decode (tC tMd_doAll) 8 = .ok (.iload_n 1, 1) by decide +kernel) 1 rfl rfl ?_
    refine v_imul (pc := 9) (show decode (tC tMd_doAll) 9 = .ok (.imul, 1) by decide +kernel) ?_
    refine v_aload_n (pc := 10) (show decode (tC tMd_doAll) 10 = .ok (.aload_n 0, 1) by decide +kernel) 0 rfl rfl ?_
    obtain ⟨v1, e2, h⟩ := ob h
    refine v_getX (pc := 11) oF_Md_34 e2 (show decode (tC tMd_doAll) 11 = .ok (.getfield 34, 3) by decide +kernel) ?_
    refine v_iload_n (pc := 14) (show decode (tC tMd_doAll) 14 = .ok (.iload_n 1, 1) by decide +kernel) 1 rfl rfl ?_
    obtain ⟨v3, e4, h⟩ := ob h
    refine v_iald (pc := 15) e4 (show decode (tC tMd_doAll) 15 = .ok (.iaload, 1) by decide +kernel) ?_
    refine v_iadd (pc := 16) (show decode (tC tMd_doAll) 16 = .ok (.iadd, 1) by decide +kernel) ?_
    refine v_icmp_ge (pc := 17) 300 (show decode (tC tMd_doAll) 17 = .ok (.if_icmp .ge 283, 3) by decide +kernel) (by decide) (fun c => ?_) (fun c => ?_)
    · replace h := ite_t c h
      obtain rfl := Option.some.inj h
      refine v_wide (ce2 := 0) (sl2 := 0) (by decide) (by decide) ?_
      exact v_vret (pc := 300) rfl (show decode (tC tMd_doAll) 300 = .ok (.return_, 1) by decide +kernel)
    · replace h := ite_f c h
      refine v_aload_n (pc := 20) (show decode (tC tMd_doAll) 20 = .ok (.aload_n 0, 1) by decide +kernel) 0 rfl rfl ?_
      obtain ⟨v5, e6, h⟩ := ob h
      refine v_getX (pc := 21) oF_Md_40 e6 (show decode (tC tMd_doAll) 21 = .ok (.getfield 40, 3) by decide +kernel) ?_
      refine v_iload (pc := 24) (show decode (tC tMd_doAll) 24 = .ok (.iload 4, 2) by decide +kernel) 4 rfl ?_
      obtain ⟨v7, e8, h⟩ := ob h
      refine v_iald (pc := 26) e8 (show decode (tC tMd_doAll) 26 = .ok (.iaload, 1) by decide +kernel) ?_
      refine v_istore (pc := 27) [(5, .int v7), (0, .ref x0), (1, .int x1), (2, .int x2), (3, .int x3), (4, .int x4)] (show decode (tC tMd_doAll) 27 = .ok (.istore 5, 2) by decide +kernel) (by decide) rfl ?_
      refine v_aload_n (pc := 29) (show decode (tC tMd_doAll) 29 = .ok (.aload_n 0, 1) by decide +kernel) 1 rfl rfl ?_
      obtain ⟨v9, e10, h⟩ := ob h
      refine v_getX (pc := 30) oF_Md_43 e10 (show decode (tC tMd_doAll) 30 = .ok (.getfield 43, 3) by decide +kernel) ?_
      refine v_iload (pc := 33) (show decode (tC tMd_doAll) 33 = .ok (.iload 4, 2) by decide +kernel) 5 rfl ?_
      obtain ⟨v11, e12, h⟩ := ob h
      refine v_iald (pc := 35) e12 (show decode (tC tMd_doAll) 35 = .ok (.iaload, 1) by decide +kernel) ?_
      refine v_istore (pc := 36) [(6, .int v11), (5, .int v7), (0, .ref x0), (1, .int x1), (2, .int x2), (3, .int x3), (4, .int x4)] (show decode (tC tMd_doAll) 36 = .ok (.istore 6, 2) by decide +kernel) (by decide) rfl ?_
      refine v_aload_n (pc := 38) (show decode (tC tMd_doAll) 38 = .ok (.aload_n 0, 1) by decide +kernel) 2 rfl rfl ?_
      obtain ⟨v13, e14, h⟩ := ob h
      refine v_getX (pc := 39) oF_Md_46 e14 (show decode (tC tMd_doAll) 39 = .ok (.getfield 46, 3) by decide +kernel) ?_
      refine v_iload (pc := 42) (show decode (tC tMd_doAll) 42 = .ok (.iload 4, 2) by decide +kernel) 6 rfl ?_
      obtain ⟨v15, e16, h⟩ := ob h
      refine v_iald (pc := 44) e16 (show decode (tC tMd_doAll) 44 = .ok (.iaload, 1) by decide +kernel) ?_
      refine v_istore (pc := 45) [(7, .int v15), (6, .int v11), (5, .int v7), (0, .ref x0), (1, .int x1), (2, .int x2), (3, .int x3), (4, .int x4)] (show decode (tC tMd_doAll) 45 = .ok (.istore 7, 2) by decide +kernel) (by decide) rfl ?_
      refine v_iload (pc := 47) (show decode (tC tMd_doAll) 47 = .ok (.iload 6, 2) by decide +kernel) 1 rfl ?_
      refine v_if_ne (pc := 49) 56 (show decode (tC tMd_doAll) 49 = .ok (.ifCond .ne 7, 3) by decide +kernel) (by decide) (fun c => ?_) (fun c => ?_)
      · replace h := ite_f c h
        refine v_iload_n (pc := 56) (show decode (tC tMd_doAll) 56 = .ok (.iload_n 3, 1) by decide +kernel) 6 rfl rfl ?_
        refine v_sub [(0, .ref x0), (1, .int x1), (2, .int x2), (3, .int x3), (4, .int x4), (5, .int v7), (6, .int v11), (7, .int v15)] [3, 4, 5, 6, 7, 2, 1, 0] rfl ?_
        exact wMd_doAll_57 hR hl (fun y0 y1 y2 y3 y4 T h => ih y0 y1 y2 y3 y4 T h) x0 x1 x2 x3 x4 v7 v11 v15 x3 S h
      · replace h := ite_t c h
        refine v_iload_n (pc := 52) (show decode (tC tMd_doAll) 52 = .ok (.iload_n 2, 1) by decide +kernel) 5 rfl rfl ?_
        refine v_goto (pc := 53) 57 (show decode (tC tMd_doAll) 53 = .ok (.goto 4, 3) by decide +kernel) (by decide) ?_
        refine v_sub [(0, .ref x0), (1, .int x1), (2, .int x2), (3, .int x3), (4, .int x4), (5, .int v7), (6, .int v11), (7, .int v15)] [3, 4, 5, 6, 7, 2, 1, 0] rfl ?_
        exact wMd_doAll_57 hR hl (fun y0 y1 y2 y3 y4 T h => ih y0 y1 y2 y3 y4 T h) x0 x1 x2 x3 x4 v7 v11 v15 x2 S h
def fMd_doAll (x0 : Nat) (x1 : Int32) (x2 : Int32) (x3 : Int32) (S : Sx) : Option (Sx) :=
    fMd_doAll_5  fuel x0 x1 x2 x3 (4 * x1) S
set_option maxRecDepth 100000 in
set_option maxHeartbeats 4000000 in
theorem wMd_doAll {Γ : vG} (hR : gR Γ = rMd_doAll) (hl : (gl Γ).flags = pinnedFlags ++ [noTraceFlag]) (x0 : Nat) (x1 : Int32) (x2 : Int32) (x3 : Int32) (S : Sx) {X : Sx} (h : fMd_doAll x0 x1 x2 x3 S = some X) : vV Γ tMd_doAll (mQ Γ 0 0 0 none X) S 0 0 0 [(0, .ref x0), (1, .int x1), (2, .int x2), (3, .int x3)] [] := by
  unfold fMd_doAll at h
  refine v_iconst (pc := 0) (v := 4) (show decode (tC tMd_doAll) 0 = .ok (.iconst 4, 1) by decide +kernel) (by decide) ?_
  refine v_iload_n (pc := 1) (show decode (tC tMd_doAll) 1 = .ok (.iload_n 1, 1) by decide +kernel) 1 rfl rfl ?_
  refine v_imul (pc := 2) (show decode (tC tMd_doAll) 2 = .ok (.imul, 1) by decide +kernel) ?_
  refine v_istore (pc := 3) [(4, .int (4 * x1)), (0, .ref x0), (1, .int x1), (2, .int x2), (3, .int x3)] (show decode (tC tMd_doAll) 3 = .ok (.istore 4, 2) by decide +kernel) (by decide) rfl ?_
  refine v_sub [(0, .ref x0), (1, .int x1), (2, .int x2), (3, .int x3), (4, .int (4 * x1))] [1, 2, 3, 4, 0] rfl ?_
  exact wMd_doAll_5 hR hl  fuel x0 x1 x2 x3 (4 * x1) S h
theorem cMd_doAll {l : Launch} (hl : l.flags = pinnedFlags ++ [noTraceFlag]) {D : va_G} {dA : Nat → ClassId} {B : Nat} {x0 : Nat} {x1 : Int32} {x2 : Int32} {x3 : Int32} {S : Sx} {X : Sx} (h : fMd_doAll x0 x1 x2 x3 S = some X) : Mx l yMd_doAll tMd_doAll rMd_doAll 0 0 D dA B S [.ref x0, .int x1, .int x2, .int x3] 0 none X :=
  mx_of hl (by decide) rfl rfl (Nat.le_of_ble_eq_true rfl) (fun Γ e1 e2 e3 e4 e5 => by subst e1; subst e3; subst e4; subst e5; exact wMd_doAll e2 hl x0 x1 x2 x3 S h)
/-! MatchPipeModel.holds(I)Z -/
def yMd_holds : MethodName := ⟨"MatchPipeModel", "holds", "(I)Z"⟩
def tMd_holds : tM := (prog_14_method_47_code, "MatchPipeModel", 5, "holds", some .boolean, [])
def rMd_holds : Room := { frames := 0, cells := 0, slots := 0, locals := 0 }
theorem kMd_holds : cOf yMd_holds tMd_holds ∈ gT := gT_in 1597 (by decide +kernel) rfl
theorem iMd_holds : Cond.initialized yMd_holds.cls ∈ gT := gT_in 68 (by decide +kernel) rfl
theorem mMd_holds : okM yMd_holds 1 := ⟨by decide, by decide, by unfold nPar; decide +kernel⟩
theorem nMd_holds : Cond.instanceMethod yMd_holds ∈ gT := gT_in 1596 (by decide +kernel) rfl
theorem lMd_holds : Cond.selects "MatchPipeModel" yMd_holds yMd_holds ∈ gT := gT_in 45 (by decide +kernel) rfl
def fMd_holds_37  (x0 : Nat) (x1 : Int32) (x2 : Int32) (x3 : Int32) (z0 : Int32) (S : Sx) : Option (Int32 × Sx) :=
    (gX S 12 29 x0).bind fun v1 =>
    (aI S v1 x1).bind fun v3 =>
    if v3 = 0 then
    (if x2 = x3 then
    (some (1, S))
    else
    (some (0, S)))
    else
    ((gX S 12 29 x0).bind fun v5 =>
    (aI S v5 x1).bind fun v7 =>
    if v7 = 1 then
    (if x2 = x3 then
    (some (0, S))
    else
    (some (1, S)))
    else
    ((gX S 12 29 x0).bind fun v9 =>
    (aI S v9 x1).bind fun v11 =>
    if v11 = 2 then
    (zb z0 (some (z0, S)))
    else
    (if z0 = 0 then
    (some (1, S))
    else
    (some (0, S)))))
set_option maxRecDepth 100000 in
set_option maxHeartbeats 4000000 in
theorem wMd_holds_37 {Γ : vG} (hR : gR Γ = rMd_holds) (hl : (gl Γ).flags = pinnedFlags ++ [noTraceFlag]) {X : Int32 × Sx}  : ∀ (x0 : Nat) (x1 : Int32) (x2 : Int32) (x3 : Int32) (z0 : Int32) (S : Sx), fMd_holds_37  x0 x1 x2 x3 z0 S = some X → vV Γ tMd_holds (mQ Γ 0 0 0 (some (.int X.1)) X.2) S 0 0 37 [(0, .ref x0), (1, .int x1), (2, .int x2), (3, .int x3)] [.int z0] := by
  intro x0 x1 x2 x3 z0 S h
  unfold fMd_holds_37 at h
  refine v_istore (pc := 37) [(4, .int z0), (0, .ref x0), (1, .int x1), (2, .int x2), (3, .int x3)] (show decode (tC tMd_holds) 37 = .ok (.istore 4, 2) by decide +kernel) (by decide) rfl ?_
  refine v_aload_n (pc := 39) (show decode (tC tMd_holds) 39 = .ok (.aload_n 0, 1) by decide +kernel) 1 rfl rfl ?_
  obtain ⟨v1, e2, h⟩ := ob h
  refine v_getX (pc := 40) oF_Md_73 e2 (show decode (tC tMd_holds) 40 = .ok (.getfield 73, 3) by decide +kernel) ?_
  refine v_iload_n (pc := 43) (show decode (tC tMd_holds) 43 = .ok (.iload_n 1, 1) by decide +kernel) 2 rfl rfl ?_
  obtain ⟨v3, e4, h⟩ := ob h
  refine v_iald (pc := 44) e4 (show decode (tC tMd_holds) 44 = .ok (.iaload, 1) by decide +kernel) ?_
  refine v_if_ne (pc := 45) 61 (show decode (tC tMd_holds) 45 = .ok (.ifCond .ne 16, 3) by decide +kernel) (by decide) (fun c => ?_) (fun c => ?_)
  · replace h := ite_f c h
    refine v_aload_n (pc := 61) (show decode (tC tMd_holds) 61 = .ok (.aload_n 0, 1) by decide +kernel) 1 rfl rfl ?_
    obtain ⟨v5, e6, h⟩ := ob h
    refine v_getX (pc := 62) oF_Md_73 e6 (show decode (tC tMd_holds) 62 = .ok (.getfield 73, 3) by decide +kernel) ?_
    refine v_iload_n (pc := 65) (show decode (tC tMd_holds) 65 = .ok (.iload_n 1, 1) by decide +kernel) 2 rfl rfl ?_
    obtain ⟨v7, e8, h⟩ := ob h
    refine v_iald (pc := 66) e8 (show decode (tC tMd_holds) 66 = .ok (.iaload, 1) by decide +kernel) ?_
    refine v_iconst (pc := 67) (v := 1) (show decode (tC tMd_holds) 67 = .ok (.iconst 1, 1) by decide +kernel) (by decide) ?_
    refine v_icmp_ne (pc := 68) 84 (show decode (tC tMd_holds) 68 = .ok (.if_icmp .ne 16, 3) by decide +kernel) (by decide) (fun c => ?_) (fun c => ?_)
    · replace h := ite_f c h
      refine v_aload_n (pc := 84) (show decode (tC tMd_holds) 84 = .ok (.aload_n 0, 1) by decide +kernel) 1 rfl rfl ?_
      obtain ⟨v9, e10, h⟩ := ob h
      refine v_getX (pc := 85) oF_Md_73 e10 (show decode (tC tMd_holds) 85 = .ok (.getfield 73, 3) by decide +kernel) ?_
      refine v_iload_n (pc := 88) (show decode (tC tMd_holds) 88 = .ok (.iload_n 1, 1) by decide +kernel) 2 rfl rfl ?_
      obtain ⟨v11, e12, h⟩ := ob h
      refine v_iald (pc := 89) e12 (show decode (tC tMd_holds) 89 = .ok (.iaload, 1) by decide +kernel) ?_
      refine v_iconst (pc := 90) (v := 2) (show decode (tC tMd_holds) 90 = .ok (.iconst 2, 1) by decide +kernel) (by decide) ?_
      refine v_icmp_ne (pc := 91) 99 (show decode (tC tMd_holds) 91 = .ok (.if_icmp .ne 8, 3) by decide +kernel) (by decide) (fun c => ?_) (fun c => ?_)
      · replace h := ite_f c h
        refine v_iload (pc := 99) (show decode (tC tMd_holds) 99 = .ok (.iload 4, 2) by decide +kernel) 0 rfl ?_
        refine v_if_ne (pc := 101) 108 (show decode (tC tMd_holds) 101 = .ok (.ifCond .ne 7, 3) by decide +kernel) (by decide) (fun c => ?_) (fun c => ?_)
        · replace h := ite_f c h
          refine v_iconst (pc := 108) (v := 0) (show decode (tC tMd_holds) 108 = .ok (.iconst 0, 1) by decide +kernel) (by decide) ?_
          obtain rfl := Option.some.inj h
          refine v_wide (ce2 := 0) (sl2 := 0) (by decide) (by decide) ?_
          exact v_zret (pc := 109) rfl (Or.inl rfl) (show decode (tC tMd_holds) 109 = .ok (.ireturn, 1) by decide +kernel)
        · replace h := ite_t c h
          refine v_iconst (pc := 104) (v := 1) (show decode (tC tMd_holds) 104 = .ok (.iconst 1, 1) by decide +kernel) (by decide) ?_
          refine v_goto (pc := 105) 109 (show decode (tC tMd_holds) 105 = .ok (.goto 4, 3) by decide +kernel) (by decide) ?_
          obtain rfl := Option.some.inj h
          refine v_wide (ce2 := 0) (sl2 := 0) (by decide) (by decide) ?_
          exact v_zret (pc := 109) rfl (Or.inr rfl) (show decode (tC tMd_holds) 109 = .ok (.ireturn, 1) by decide +kernel)
      · replace h := ite_t c h
        refine v_iload (pc := 94) (show decode (tC tMd_holds) 94 = .ok (.iload 4, 2) by decide +kernel) 0 rfl ?_
        refine v_goto (pc := 96) 109 (show decode (tC tMd_holds) 96 = .ok (.goto 13, 3) by decide +kernel) (by decide) ?_
        obtain ⟨e13, h⟩ := zb_of h
        obtain rfl := Option.some.inj h
        refine v_wide (ce2 := 0) (sl2 := 0) (by decide) (by decide) ?_
        exact v_zret (pc := 109) rfl e13 (show decode (tC tMd_holds) 109 = .ok (.ireturn, 1) by decide +kernel)
    · replace h := ite_t c h
      refine v_iload_n (pc := 71) (show decode (tC tMd_holds) 71 = .ok (.iload_n 2, 1) by decide +kernel) 3 rfl rfl ?_
      refine v_iload_n (pc := 72) (show decode (tC tMd_holds) 72 = .ok (.iload_n 3, 1) by decide +kernel) 4 rfl rfl ?_
      refine v_icmp_eq (pc := 73) 80 (show decode (tC tMd_holds) 73 = .ok (.if_icmp .eq 7, 3) by decide +kernel) (by decide) (fun c => ?_) (fun c => ?_)
      · replace h := ite_t c h
        refine v_iconst (pc := 80) (v := 0) (show decode (tC tMd_holds) 80 = .ok (.iconst 0, 1) by decide +kernel) (by decide) ?_
        refine v_goto (pc := 81) 109 (show decode (tC tMd_holds) 81 = .ok (.goto 28, 3) by decide +kernel) (by decide) ?_
        obtain rfl := Option.some.inj h
        refine v_wide (ce2 := 0) (sl2 := 0) (by decide) (by decide) ?_
        exact v_zret (pc := 109) rfl (Or.inl rfl) (show decode (tC tMd_holds) 109 = .ok (.ireturn, 1) by decide +kernel)
      · replace h := ite_f c h
        refine v_iconst (pc := 76) (v := 1) (show decode (tC tMd_holds) 76 = .ok (.iconst 1, 1) by decide +kernel) (by decide) ?_
        refine v_goto (pc := 77) 109 (show decode (tC tMd_holds) 77 = .ok (.goto 32, 3) by decide +kernel) (by decide) ?_
        obtain rfl := Option.some.inj h
        refine v_wide (ce2 := 0) (sl2 := 0) (by decide) (by decide) ?_
        exact v_zret (pc := 109) rfl (Or.inr rfl) (show decode (tC tMd_holds) 109 = .ok (.ireturn, 1) by decide +kernel)
  · replace h := ite_t c h
    refine v_iload_n (pc := 48) (show decode (tC tMd_holds) 48 = .ok (.iload_n 2, 1) by decide +kernel) 3 rfl rfl ?_
    refine v_iload_n (pc := 49) (show decode (tC tMd_holds) 49 = .ok (.iload_n 3, 1) by decide +kernel) 4 rfl rfl ?_
    refine v_icmp_ne (pc := 50) 57 (show decode (tC tMd_holds) 50 = .ok (.if_icmp .ne 7, 3) by decide +kernel) (by decide) (fun c => ?_) (fun c => ?_)
    · replace h := ite_f c h
      refine v_iconst (pc := 57) (v := 0) (show decode (tC tMd_holds) 57 = .ok (.iconst 0, 1) by decide +kernel) (by decide) ?_
      refine v_goto (pc := 58) 109 (show decode (tC tMd_holds) 58 = .ok (.goto 51, 3) by decide +kernel) (by decide) ?_
      obtain rfl := Option.some.inj h
      refine v_wide (ce2 := 0) (sl2 := 0) (by decide) (by decide) ?_
      exact v_zret (pc := 109) rfl (Or.inl rfl) (show decode (tC tMd_holds) 109 = .ok (.ireturn, 1) by decide +kernel)
    · replace h := ite_t c h
      refine v_iconst (pc := 53) (v := 1) (show decode (tC tMd_holds) 53 = .ok (.iconst 1, 1) by decide +kernel) (by decide) ?_
      refine v_goto (pc := 54) 109 (show decode (tC tMd_holds) 54 = .ok (.goto 55, 3) by decide +kernel) (by decide) ?_
      obtain rfl := Option.some.inj h
      refine v_wide (ce2 := 0) (sl2 := 0) (by decide) (by decide) ?_
      exact v_zret (pc := 109) rfl (Or.inr rfl) (show decode (tC tMd_holds) 109 = .ok (.ireturn, 1) by decide +kernel)
def fMd_holds (x0 : Nat) (x1 : Int32) (S : Sx) : Option (Int32 × Sx) :=
    (gX S 12 77 x0).bind fun v1 =>
    (gX S 12 28 x0).bind fun v3 =>
    (aI S v3 x1).bind fun v5 =>
    (aI S v1 v5).bind fun v7 =>
    (gX S 12 30 x0).bind fun v9 =>
    (aI S v9 x1).bind fun v11 =>
    if (v11 + (-2147483648)) ≤ (v7 + (-2147483648)) then
    (fMd_holds_37  x0 x1 v7 v11 0 S)
    else
    (fMd_holds_37  x0 x1 v7 v11 1 S)
set_option maxRecDepth 100000 in
set_option maxHeartbeats 4000000 in
theorem wMd_holds {Γ : vG} (hR : gR Γ = rMd_holds) (hl : (gl Γ).flags = pinnedFlags ++ [noTraceFlag]) (x0 : Nat) (x1 : Int32) (S : Sx) {X : Int32 × Sx} (h : fMd_holds x0 x1 S = some X) : vV Γ tMd_holds (mQ Γ 0 0 0 (some (.int X.1)) X.2) S 0 0 0 [(0, .ref x0), (1, .int x1)] [] := by
  unfold fMd_holds at h
  refine v_aload_n (pc := 0) (show decode (tC tMd_holds) 0 = .ok (.aload_n 0, 1) by decide +kernel) 0 rfl rfl ?_
  obtain ⟨v1, e2, h⟩ := ob h
  refine v_getX (pc := 1) oF_Md_174 e2 (show decode (tC tMd_holds) 1 = .ok (.getfield 174, 3) by decide +kernel) ?_
  refine v_aload_n (pc := 4) (show decode (tC tMd_holds) 4 = .ok (.aload_n 0, 1) by decide +kernel) 0 rfl rfl ?_
  obtain ⟨v3, e4, h⟩ := ob h
  refine v_getX (pc := 5) oF_Md_70 e4 (show decode (tC tMd_holds) 5 = .ok (.getfield 70, 3) by decide +kernel) ?_
  refine v_iload_n (pc := 8) (show decode (tC tMd_holds) 8 = .ok (.iload_n 1, 1) by decide +kernel) 1 rfl rfl ?_
  obtain ⟨v5, e6, h⟩ := ob h
  refine v_iald (pc := 9) e6 (show decode (tC tMd_holds) 9 = .ok (.iaload, 1) by decide +kernel) ?_
  obtain ⟨v7, e8, h⟩ := ob h
  refine v_iald (pc := 10) e8 (show decode (tC tMd_holds) 10 = .ok (.iaload, 1) by decide +kernel) ?_
  refine v_istore_n (pc := 11) [(2, .int v7), (0, .ref x0), (1, .int x1)] (show decode (tC tMd_holds) 11 = .ok (.istore_n 2, 1) by decide +kernel) rfl (by decide) rfl ?_
  refine v_aload_n (pc := 12) (show decode (tC tMd_holds) 12 = .ok (.aload_n 0, 1) by decide +kernel) 1 rfl rfl ?_
  obtain ⟨v9, e10, h⟩ := ob h
  refine v_getX (pc := 13) oF_Md_76 e10 (show decode (tC tMd_holds) 13 = .ok (.getfield 76, 3) by decide +kernel) ?_
  refine v_iload_n (pc := 16) (show decode (tC tMd_holds) 16 = .ok (.iload_n 1, 1) by decide +kernel) 2 rfl rfl ?_
  obtain ⟨v11, e12, h⟩ := ob h
  refine v_iald (pc := 17) e12 (show decode (tC tMd_holds) 17 = .ok (.iaload, 1) by decide +kernel) ?_
  refine v_istore_n (pc := 18) [(3, .int v11), (2, .int v7), (0, .ref x0), (1, .int x1)] (show decode (tC tMd_holds) 18 = .ok (.istore_n 3, 1) by decide +kernel) rfl (by decide) rfl ?_
  refine v_iload_n (pc := 19) (show decode (tC tMd_holds) 19 = .ok (.iload_n 2, 1) by decide +kernel) 1 rfl rfl ?_
  refine v_ldcw (pc := 20) (v := (-2147483648)) (gT_in 1598 (by decide +kernel) rfl) (show decode (tC tMd_holds) 20 = .ok (.ldc_w 322, 3) by decide +kernel) ?_
  refine v_iadd (pc := 23) (show decode (tC tMd_holds) 23 = .ok (.iadd, 1) by decide +kernel) ?_
  refine v_iload_n (pc := 24) (show decode (tC tMd_holds) 24 = .ok (.iload_n 3, 1) by decide +kernel) 0 rfl rfl ?_
  refine v_ldcw (pc := 25) (v := (-2147483648)) (gT_in 1598 (by decide +kernel) rfl) (show decode (tC tMd_holds) 25 = .ok (.ldc_w 322, 3) by decide +kernel) ?_
  refine v_iadd (pc := 28) (show decode (tC tMd_holds) 28 = .ok (.iadd, 1) by decide +kernel) ?_
  refine v_icmp_ge (pc := 29) 36 (show decode (tC tMd_holds) 29 = .ok (.if_icmp .ge 7, 3) by decide +kernel) (by decide) (fun c => ?_) (fun c => ?_)
  · replace h := ite_t c h
    refine v_iconst (pc := 36) (v := 0) (show decode (tC tMd_holds) 36 = .ok (.iconst 0, 1) by decide +kernel) (by decide) ?_
    refine v_sub [(0, .ref x0), (1, .int x1), (2, .int v7), (3, .int v11)] [2, 3, 1, 0] rfl ?_
    exact wMd_holds_37 hR hl  x0 x1 v7 v11 0 S h
  · replace h := ite_f c h
    refine v_iconst (pc := 32) (v := 1) (show decode (tC tMd_holds) 32 = .ok (.iconst 1, 1) by decide +kernel) (by decide) ?_
    refine v_goto (pc := 33) 37 (show decode (tC tMd_holds) 33 = .ok (.goto 4, 3) by decide +kernel) (by decide) ?_
    refine v_sub [(0, .ref x0), (1, .int x1), (2, .int v7), (3, .int v11)] [2, 3, 1, 0] rfl ?_
    exact wMd_holds_37 hR hl  x0 x1 v7 v11 1 S h
theorem cMd_holds {l : Launch} (hl : l.flags = pinnedFlags ++ [noTraceFlag]) {D : va_G} {dA : Nat → ClassId} {B : Nat} {x0 : Nat} {x1 : Int32} {S : Sx} {X : Int32 × Sx} (h : fMd_holds x0 x1 S = some X) : Mx l yMd_holds tMd_holds rMd_holds 0 0 D dA B S [.ref x0, .int x1] 0 (some (.int X.1)) X.2 :=
  mx_of hl (by decide) rfl rfl (Nat.le_of_ble_eq_true rfl) (fun Γ e1 e2 e3 e4 e5 => by subst e1; subst e3; subst e4; subst e5; exact wMd_holds e2 hl x0 x1 S h)
/-! MatchPipeModel.fits(II)Z -/
def yMd_fits : MethodName := ⟨"MatchPipeModel", "fits", "(II)Z"⟩
def tMd_fits : tM := (prog_14_method_43_code, "MatchPipeModel", 3, "fits", some .boolean, [])
def rMd_fits : Room := { frames := 0, cells := 0, slots := 0, locals := 0 }
theorem kMd_fits : cOf yMd_fits tMd_fits ∈ gT := gT_in 1606 (by decide +kernel) rfl
theorem iMd_fits : Cond.initialized yMd_fits.cls ∈ gT := gT_in 68 (by decide +kernel) rfl
theorem mMd_fits : okM yMd_fits 2 := ⟨by decide, by decide, by unfold nPar; decide +kernel⟩
theorem nMd_fits : Cond.instanceMethod yMd_fits ∈ gT := gT_in 1605 (by decide +kernel) rfl
theorem lMd_fits : Cond.selects "MatchPipeModel" yMd_fits yMd_fits ∈ gT := gT_in 47 (by decide +kernel) rfl
def fMd_fits (x0 : Nat) (x1 : Int32) (x2 : Int32) (S : Sx) : Option (Int32 × Sx) :=
    (gX S 12 77 x0).bind fun v1 =>
    (gX S 12 21 x0).bind fun v3 =>
    (aI S v3 x1).bind fun v5 =>
    (aI S v1 v5).bind fun v7 =>
    (gX S 12 37 x0).bind fun v9 =>
    (aI S v9 x2).bind fun v11 =>
    (gX S 12 36 x0).bind fun v13 =>
    (aI S v13 x2).bind fun v15 =>
    if (v7 &&& v11) = v15 then
    ((gX S 12 22 x0).bind fun v17 =>
    (aI S v17 x1).bind fun v19 =>
    if v19 < 0 then
    (some (1, S))
    else
    ((gX S 12 77 x0).bind fun v21 =>
    (gX S 12 22 x0).bind fun v23 =>
    (aI S v23 x1).bind fun v25 =>
    (aI S v21 v25).bind fun v27 =>
    (gX S 12 39 x0).bind fun v29 =>
    (aI S v29 x2).bind fun v31 =>
    (gX S 12 38 x0).bind fun v33 =>
    (aI S v33 x2).bind fun v35 =>
    if (v27 &&& v31) = v35 then
    (some (1, S))
    else
    (some (0, S))))
    else
    (some (0, S))
set_option maxRecDepth 100000 in
set_option maxHeartbeats 4000000 in
theorem wMd_fits {Γ : vG} (hR : gR Γ = rMd_fits) (hl : (gl Γ).flags = pinnedFlags ++ [noTraceFlag]) (x0 : Nat) (x1 : Int32) (x2 : Int32) (S : Sx) {X : Int32 × Sx} (h : fMd_fits x0 x1 x2 S = some X) : vV Γ tMd_fits (mQ Γ 0 0 0 (some (.int X.1)) X.2) S 0 0 0 [(0, .ref x0), (1, .int x1), (2, .int x2)] [] := by
  unfold fMd_fits at h
  refine v_aload_n (pc := 0) (show decode (tC tMd_fits) 0 = .ok (.aload_n 0, 1) by decide +kernel) 0 rfl rfl ?_
  obtain ⟨v1, e2, h⟩ := ob h
  refine v_getX (pc := 1) oF_Md_174 e2 (show decode (tC tMd_fits) 1 = .ok (.getfield 174, 3) by decide +kernel) ?_
  refine v_aload_n (pc := 4) (show decode (tC tMd_fits) 4 = .ok (.aload_n 0, 1) by decide +kernel) 0 rfl rfl ?_
  obtain ⟨v3, e4, h⟩ := ob h
  refine v_getX (pc := 5) oF_Md_49 e4 (show decode (tC tMd_fits) 5 = .ok (.getfield 49, 3) by decide +kernel) ?_
  refine v_iload_n (pc := 8) (show decode (tC tMd_fits) 8 = .ok (.iload_n 1, 1) by decide +kernel) 1 rfl rfl ?_
  obtain ⟨v5, e6, h⟩ := ob h
  refine v_iald (pc := 9) e6 (show decode (tC tMd_fits) 9 = .ok (.iaload, 1) by decide +kernel) ?_
  obtain ⟨v7, e8, h⟩ := ob h
  refine v_iald (pc := 10) e8 (show decode (tC tMd_fits) 10 = .ok (.iaload, 1) by decide +kernel) ?_
  refine v_aload_n (pc := 11) (show decode (tC tMd_fits) 11 = .ok (.aload_n 0, 1) by decide +kernel) 0 rfl rfl ?_
  obtain ⟨v9, e10, h⟩ := ob h
  refine v_getX (pc := 12) oF_Md_95 e10 (show decode (tC tMd_fits) 12 = .ok (.getfield 95, 3) by decide +kernel) ?_
  refine v_iload_n (pc := 15) (show decode (tC tMd_fits) 15 = .ok (.iload_n 2, 1) by decide +kernel) 2 rfl rfl ?_
  obtain ⟨v11, e12, h⟩ := ob h
  refine v_iald (pc := 16) e12 (show decode (tC tMd_fits) 16 = .ok (.iaload, 1) by decide +kernel) ?_
  refine v_iand (pc := 17) (show decode (tC tMd_fits) 17 = .ok (.iand, 1) by decide +kernel) ?_
  refine v_aload_n (pc := 18) (show decode (tC tMd_fits) 18 = .ok (.aload_n 0, 1) by decide +kernel) 0 rfl rfl ?_
  obtain ⟨v13, e14, h⟩ := ob h
  refine v_getX (pc := 19) oF_Md_92 e14 (show decode (tC tMd_fits) 19 = .ok (.getfield 92, 3) by decide +kernel) ?_
  refine v_iload_n (pc := 22) (show decode (tC tMd_fits) 22 = .ok (.iload_n 2, 1) by decide +kernel) 2 rfl rfl ?_
  obtain ⟨v15, e16, h⟩ := ob h
  refine v_iald (pc := 23) e16 (show decode (tC tMd_fits) 23 = .ok (.iaload, 1) by decide +kernel) ?_
  refine v_icmp_ne (pc := 24) 67 (show decode (tC tMd_fits) 24 = .ok (.if_icmp .ne 43, 3) by decide +kernel) (by decide) (fun c => ?_) (fun c => ?_)
  · replace h := ite_f c h
    refine v_iconst (pc := 67) (v := 0) (show decode (tC tMd_fits) 67 = .ok (.iconst 0, 1) by decide +kernel) (by decide) ?_
    obtain rfl := Option.some.inj h
    refine v_wide (ce2 := 0) (sl2 := 0) (by decide) (by decide) ?_
    exact v_zret (pc := 68) rfl (Or.inl rfl) (show decode (tC tMd_fits) 68 = .ok (.ireturn, 1) by decide +kernel)
  · replace h := ite_t c h
    refine v_aload_n (pc := 27) (show decode (tC tMd_fits) 27 = .ok (.aload_n 0, 1) by decide +kernel) 0 rfl rfl ?_
    obtain ⟨v17, e18, h⟩ := ob h
    refine v_getX (pc := 28) oF_Md_52 e18 (show decode (tC tMd_fits) 28 = .ok (.getfield 52, 3) by decide +kernel) ?_
    refine v_iload_n (pc := 31) (show decode (tC tMd_fits) 31 = .ok (.iload_n 1, 1) by decide +kernel) 1 rfl rfl ?_
    obtain ⟨v19, e20, h⟩ := ob h
    refine v_iald (pc := 32) e20 (show decode (tC tMd_fits) 32 = .ok (.iaload, 1) by decide +kernel) ?_
    refine v_if_lt (pc := 33) 63 (show decode (tC tMd_fits) 33 = .ok (.ifCond .lt 30, 3) by decide +kernel) (by decide) (fun c => ?_) (fun c => ?_)
    · replace h := ite_t c h
      refine v_iconst (pc := 63) (v := 1) (show decode (tC tMd_fits) 63 = .ok (.iconst 1, 1) by decide +kernel) (by decide) ?_
      refine v_goto (pc := 64) 68 (show decode (tC tMd_fits) 64 = .ok (.goto 4, 3) by decide +kernel) (by decide) ?_
      obtain rfl := Option.some.inj h
      refine v_wide (ce2 := 0) (sl2 := 0) (by decide) (by decide) ?_
      exact v_zret (pc := 68) rfl (Or.inr rfl) (show decode (tC tMd_fits) 68 = .ok (.ireturn, 1) by decide +kernel)
    · replace h := ite_f c h
      refine v_aload_n (pc := 36) (show decode (tC tMd_fits) 36 = .ok (.aload_n 0, 1) by decide +kernel) 0 rfl rfl ?_
      obtain ⟨v21, e22, h⟩ := ob h
      refine v_getX (pc := 37) oF_Md_174 e22 (show decode (tC tMd_fits) 37 = .ok (.getfield 174, 3) by decide +kernel) ?_
      refine v_aload_n (pc := 40) (show decode (tC tMd_fits) 40 = .ok (.aload_n 0, 1) by decide +kernel) 0 rfl rfl ?_
      obtain ⟨v23, e24, h⟩ := ob h
      refine v_getX (pc := 41) oF_Md_52 e24 (show decode (tC tMd_fits) 41 = .ok (.getfield 52, 3) by decide +kernel) ?_
      refine v_iload_n (pc := 44) (show decode (tC tMd_fits) 44 = .ok (.iload_n 1, 1) by decide +kernel) 1 rfl rfl ?_
      obtain ⟨v25, e26, h⟩ := ob h
      refine v_iald (pc := 45) e26 (show decode (tC tMd_fits) 45 = .ok (.iaload, 1) by decide +kernel) ?_
      obtain ⟨v27, e28, h⟩ := ob h
      refine v_iald (pc := 46) e28 (show decode (tC tMd_fits) 46 = .ok (.iaload, 1) by decide +kernel) ?_
      refine v_aload_n (pc := 47) (show decode (tC tMd_fits) 47 = .ok (.aload_n 0, 1) by decide +kernel) 0 rfl rfl ?_
      obtain ⟨v29, e30, h⟩ := ob h
      refine v_getX (pc := 48) oF_Md_101 e30 (show decode (tC tMd_fits) 48 = .ok (.getfield 101, 3) by decide +kernel) ?_
      refine v_iload_n (pc := 51) (show decode (tC tMd_fits) 51 = .ok (.iload_n 2, 1) by decide +kernel) 2 rfl rfl ?_
      obtain ⟨v31, e32, h⟩ := ob h
      refine v_iald (pc := 52) e32 (show decode (tC tMd_fits) 52 = .ok (.iaload, 1) by decide +kernel) ?_
      refine v_iand (pc := 53) (show decode (tC tMd_fits) 53 = .ok (.iand, 1) by decide +kernel) ?_
      refine v_aload_n (pc := 54) (show decode (tC tMd_fits) 54 = .ok (.aload_n 0, 1) by decide +kernel) 0 rfl rfl ?_
      obtain ⟨v33, e34, h⟩ := ob h
      refine v_getX (pc := 55) oF_Md_98 e34 (show decode (tC tMd_fits) 55 = .ok (.getfield 98, 3) by decide +kernel) ?_
      refine v_iload_n (pc := 58) (show decode (tC tMd_fits) 58 = .ok (.iload_n 2, 1) by decide +kernel) 2 rfl rfl ?_
      obtain ⟨v35, e36, h⟩ := ob h
      refine v_iald (pc := 59) e36 (show decode (tC tMd_fits) 59 = .ok (.iaload, 1) by decide +kernel) ?_
      refine v_icmp_ne (pc := 60) 67 (show decode (tC tMd_fits) 60 = .ok (.if_icmp .ne 7, 3) by decide +kernel) (by decide) (fun c => ?_) (fun c => ?_)
      · replace h := ite_f c h
        refine v_iconst (pc := 67) (v := 0) (show decode (tC tMd_fits) 67 = .ok (.iconst 0, 1) by decide +kernel) (by decide) ?_
        obtain rfl := Option.some.inj h
        refine v_wide (ce2 := 0) (sl2 := 0) (by decide) (by decide) ?_
        exact v_zret (pc := 68) rfl (Or.inl rfl) (show decode (tC tMd_fits) 68 = .ok (.ireturn, 1) by decide +kernel)
      · replace h := ite_t c h
        refine v_iconst (pc := 63) (v := 1) (show decode (tC tMd_fits) 63 = .ok (.iconst 1, 1) by decide +kernel) (by decide) ?_
        refine v_goto (pc := 64) 68 (show decode (tC tMd_fits) 64 = .ok (.goto 4, 3) by decide +kernel) (by decide) ?_
        obtain rfl := Option.some.inj h
        refine v_wide (ce2 := 0) (sl2 := 0) (by decide) (by decide) ?_
        exact v_zret (pc := 68) rfl (Or.inr rfl) (show decode (tC tMd_fits) 68 = .ok (.ireturn, 1) by decide +kernel)
theorem cMd_fits {l : Launch} (hl : l.flags = pinnedFlags ++ [noTraceFlag]) {D : va_G} {dA : Nat → ClassId} {B : Nat} {x0 : Nat} {x1 : Int32} {x2 : Int32} {S : Sx} {X : Int32 × Sx} (h : fMd_fits x0 x1 x2 S = some X) : Mx l yMd_fits tMd_fits rMd_fits 0 0 D dA B S [.ref x0, .int x1, .int x2] 0 (some (.int X.1)) X.2 :=
  mx_of hl (by decide) rfl rfl (Nat.le_of_ble_eq_true rfl) (fun Γ e1 e2 e3 e4 e5 => by subst e1; subst e3; subst e4; subst e5; exact wMd_fits e2 hl x0 x1 x2 S h)
/-! MatchPipeModel.prefix(II)I -/
def yMd_prefix : MethodName := ⟨"MatchPipeModel", "prefix", "(II)I"⟩
def tMd_prefix : tM := (prog_14_method_44_code, "MatchPipeModel", 3, "prefix", some .int, [])
def rMd_prefix : Room := { frames := 1, cells := 0, slots := 0, locals := 22 }
theorem kMd_prefix : cOf yMd_prefix tMd_prefix ∈ gT := gT_in 1610 (by decide +kernel) rfl
theorem iMd_prefix : Cond.initialized yMd_prefix.cls ∈ gT := gT_in 68 (by decide +kernel) rfl
theorem mMd_prefix : okM yMd_prefix 2 := ⟨by decide, by decide, by unfold nPar; decide +kernel⟩
theorem nMd_prefix : Cond.instanceMethod yMd_prefix ∈ gT := gT_in 1609 (by decide +kernel) rfl
theorem lMd_prefix : Cond.selects "MatchPipeModel" yMd_prefix yMd_prefix ∈ gT := gT_in 48 (by decide +kernel) rfl
def fMd_prefix (x0 : Nat) (x1 : Int32) (x2 : Int32) (S : Sx) : Option (Int32 × Sx) :=
    (gX S 12 23 x0).bind fun v1 =>
    (aI S v1 x1).bind fun v3 =>
    if v3 = 1 then
    ((gX S 12 37 x0).bind fun v20 =>
    (aI S v20 x2).bind fun v22 =>
    bd2 (fMd_ones v22 S) fun r25 S26 =>
    some (r25, S26))
    else
    ((gX S 12 22 x0).bind fun v5 =>
    (aI S v5 x1).bind fun v7 =>
    if v7 < 0 then
    (some (0, S))
    else
    ((gX S 12 24 x0).bind fun v9 =>
    (aI S v9 x1).bind fun v11 =>
    if v11 = 1 then
    ((gX S 12 39 x0).bind fun v13 =>
    (aI S v13 x2).bind fun v15 =>
    bd2 (fMd_ones v15 S) fun r18 S19 =>
    some (r18, S19))
    else
    (some (0, S))))
set_option maxRecDepth 100000 in
set_option maxHeartbeats 4000000 in
theorem wMd_prefix {Γ : vG} (hR : gR Γ = rMd_prefix) (hl : (gl Γ).flags = pinnedFlags ++ [noTraceFlag]) (x0 : Nat) (x1 : Int32) (x2 : Int32) (S : Sx) {X : Int32 × Sx} (h : fMd_prefix x0 x1 x2 S = some X) : vV Γ tMd_prefix (mQ Γ 0 0 0 (some (.int X.1)) X.2) S 0 0 0 [(0, .ref x0), (1, .int x1), (2, .int x2)] [] := by
  unfold fMd_prefix at h
  refine v_aload_n (pc := 0) (show decode (tC tMd_prefix) 0 = .ok (.aload_n 0, 1) by decide +kernel) 0 rfl rfl ?_
  obtain ⟨v1, e2, h⟩ := ob h
  refine v_getX (pc := 1) oF_Md_55 e2 (show decode (tC tMd_prefix) 1 = .ok (.getfield 55, 3) by decide +kernel) ?_
  refine v_iload_n (pc := 4) (show decode (tC tMd_prefix) 4 = .ok (.iload_n 1, 1) by decide +kernel) 1 rfl rfl ?_
  obtain ⟨v3, e4, h⟩ := ob h
  refine v_iald (pc := 5) e4 (show decode (tC tMd_prefix) 5 = .ok (.iaload, 1) by decide +kernel) ?_
  refine v_iconst (pc := 6) (v := 1) (show decode (tC tMd_prefix) 6 = .ok (.iconst 1, 1) by decide +kernel) (by decide) ?_
  refine v_icmp_ne (pc := 7) 22 (show decode (tC tMd_prefix) 7 = .ok (.if_icmp .ne 15, 3) by decide +kernel) (by decide) (fun c => ?_) (fun c => ?_)
  · replace h := ite_f c h
    refine v_aload_n (pc := 22) (show decode (tC tMd_prefix) 22 = .ok (.aload_n 0, 1) by decide +kernel) 0 rfl rfl ?_
    obtain ⟨v5, e6, h⟩ := ob h
    refine v_getX (pc := 23) oF_Md_52 e6 (show decode (tC tMd_prefix) 23 = .ok (.getfield 52, 3) by decide +kernel) ?_
    refine v_iload_n (pc := 26) (show decode (tC tMd_prefix) 26 = .ok (.iload_n 1, 1) by decide +kernel) 1 rfl rfl ?_
    obtain ⟨v7, e8, h⟩ := ob h
    refine v_iald (pc := 27) e8 (show decode (tC tMd_prefix) 27 = .ok (.iaload, 1) by decide +kernel) ?_
    refine v_if_lt (pc := 28) 53 (show decode (tC tMd_prefix) 28 = .ok (.ifCond .lt 25, 3) by decide +kernel) (by decide) (fun c => ?_) (fun c => ?_)
    · replace h := ite_t c h
      refine v_iconst (pc := 53) (v := 0) (show decode (tC tMd_prefix) 53 = .ok (.iconst 0, 1) by decide +kernel) (by decide) ?_
      obtain rfl := Option.some.inj h
      refine v_wide (ce2 := 0) (sl2 := 0) (by decide) (by decide) ?_
      exact v_iret (pc := 54) rfl (show decode (tC tMd_prefix) 54 = .ok (.ireturn, 1) by decide +kernel)
    · replace h := ite_f c h
      refine v_aload_n (pc := 31) (show decode (tC tMd_prefix) 31 = .ok (.aload_n 0, 1) by decide +kernel) 0 rfl rfl ?_
      obtain ⟨v9, e10, h⟩ := ob h
      refine v_getX (pc := 32) oF_Md_58 e10 (show decode (tC tMd_prefix) 32 = .ok (.getfield 58, 3) by decide +kernel) ?_
      refine v_iload_n (pc := 35) (show decode (tC tMd_prefix) 35 = .ok (.iload_n 1, 1) by decide +kernel) 1 rfl rfl ?_
      obtain ⟨v11, e12, h⟩ := ob h
      refine v_iald (pc := 36) e12 (show decode (tC tMd_prefix) 36 = .ok (.iaload, 1) by decide +kernel) ?_
      refine v_iconst (pc := 37) (v := 1) (show decode (tC tMd_prefix) 37 = .ok (.iconst 1, 1) by decide +kernel) (by decide) ?_
      refine v_icmp_ne (pc := 38) 53 (show decode (tC tMd_prefix) 38 = .ok (.if_icmp .ne 15, 3) by decide +kernel) (by decide) (fun c => ?_) (fun c => ?_)
      · replace h := ite_f c h
        refine v_iconst (pc := 53) (v := 0) (show decode (tC tMd_prefix) 53 = .ok (.iconst 0, 1) by decide +kernel) (by decide) ?_
        obtain rfl := Option.some.inj h
        refine v_wide (ce2 := 0) (sl2 := 0) (by decide) (by decide) ?_
        exact v_iret (pc := 54) rfl (show decode (tC tMd_prefix) 54 = .ok (.ireturn, 1) by decide +kernel)
      · replace h := ite_t c h
        refine v_aload_n (pc := 41) (show decode (tC tMd_prefix) 41 = .ok (.aload_n 0, 1) by decide +kernel) 0 rfl rfl ?_
        obtain ⟨v13, e14, h⟩ := ob h
        refine v_getX (pc := 42) oF_Md_101 e14 (show decode (tC tMd_prefix) 42 = .ok (.getfield 101, 3) by decide +kernel) ?_
        refine v_iload_n (pc := 45) (show decode (tC tMd_prefix) 45 = .ok (.iload_n 2, 1) by decide +kernel) 2 rfl rfl ?_
        obtain ⟨v15, e16, h⟩ := ob h
        refine v_iald (pc := 46) e16 (show decode (tC tMd_prefix) 46 = .ok (.iaload, 1) by decide +kernel) ?_
        obtain ⟨r18, S19, e17, h⟩ := ob2 h
        refine v_call (pc := 47) (v := (some (.int r18))) (y := yMd_ones) (θ' := tMd_ones) (rm := rMd_ones) (av := [.int v15]) (st := []) (cMd_ones (l := gl Γ) hl e17) kMd_ones iMd_ones (iv_static (y := yMd_ones) (θ' := tMd_ones) (n := 1) (As := [.int v15]) kMd_ones (gT_in 1611 (by decide +kernel) rfl) sMd_ones iMd_ones mMd_ones rfl (show decode (tC tMd_prefix) 47 = .ok (.invokestatic 313, 3) by decide +kernel)) ⟨by rw [hR]; decide, by rw [hR]; decide, by rw [hR]; decide, by rw [hR]; decide⟩ (Nat.le_of_ble_eq_true rfl) ?_
        refine v_goto (pc := 50) 54 (show decode (tC tMd_prefix) 50 = .ok (.goto 4, 3) by decide +kernel) (by decide) ?_
        obtain rfl := Option.some.inj h
        refine v_wide (ce2 := 0) (sl2 := 0) (by decide) (by decide) ?_
        exact v_iret (pc := 54) rfl (show decode (tC tMd_prefix) 54 = .ok (.ireturn, 1) by decide +kernel)
  · replace h := ite_t c h
    refine v_aload_n (pc := 10) (show decode (tC tMd_prefix) 10 = .ok (.aload_n 0, 1) by decide +kernel) 0 rfl rfl ?_
    obtain ⟨v20, e21, h⟩ := ob h
    refine v_getX (pc := 11) oF_Md_95 e21 (show decode (tC tMd_prefix) 11 = .ok (.getfield 95, 3) by decide +kernel) ?_
    refine v_iload_n (pc := 14) (show decode (tC tMd_prefix) 14 = .ok (.iload_n 2, 1) by decide +kernel) 2 rfl rfl ?_
    obtain ⟨v22, e23, h⟩ := ob h
    refine v_iald (pc := 15) e23 (show decode (tC tMd_prefix) 15 = .ok (.iaload, 1) by decide +kernel) ?_
    obtain ⟨r25, S26, e24, h⟩ := ob2 h
    refine v_call (pc := 16) (v := (some (.int r25))) (y := yMd_ones) (θ' := tMd_ones) (rm := rMd_ones) (av := [.int v22]) (st := []) (cMd_ones (l := gl Γ) hl e24) kMd_ones iMd_ones (iv_static (y := yMd_ones) (θ' := tMd_ones) (n := 1) (As := [.int v22]) kMd_ones (gT_in 1611 (by decide +kernel) rfl) sMd_ones iMd_ones mMd_ones rfl (show decode (tC tMd_prefix) 16 = .ok (.invokestatic 313, 3) by decide +kernel)) ⟨by rw [hR]; decide, by rw [hR]; decide, by rw [hR]; decide, by rw [hR]; decide⟩ (Nat.le_of_ble_eq_true rfl) ?_
    refine v_goto (pc := 19) 54 (show decode (tC tMd_prefix) 19 = .ok (.goto 35, 3) by decide +kernel) (by decide) ?_
    obtain rfl := Option.some.inj h
    refine v_wide (ce2 := 0) (sl2 := 0) (by decide) (by decide) ?_
    exact v_iret (pc := 54) rfl (show decode (tC tMd_prefix) 54 = .ok (.ireturn, 1) by decide +kernel)
theorem cMd_prefix {l : Launch} (hl : l.flags = pinnedFlags ++ [noTraceFlag]) {D : va_G} {dA : Nat → ClassId} {B : Nat} {x0 : Nat} {x1 : Int32} {x2 : Int32} {S : Sx} {X : Int32 × Sx} (h : fMd_prefix x0 x1 x2 S = some X) : Mx l yMd_prefix tMd_prefix rMd_prefix 0 0 D dA B S [.ref x0, .int x1, .int x2] 0 (some (.int X.1)) X.2 :=
  mx_of hl (by decide) rfl rfl (Nat.le_of_ble_eq_true rfl) (fun Γ e1 e2 e3 e4 e5 => by subst e1; subst e3; subst e4; subst e5; exact wMd_prefix e2 hl x0 x1 x2 S h)
/-! MatchPipeModel.match(I)I -/
def yMd_match : MethodName := ⟨"MatchPipeModel", "match", "(I)I"⟩
def tMd_match : tM := (prog_14_method_45_code, "MatchPipeModel", 4, "match", some .int, [])
def rMd_match : Room := { frames := 2, cells := 0, slots := 0, locals := 44 }
theorem kMd_match : cOf yMd_match tMd_match ∈ gT := gT_in 1602 (by decide +kernel) rfl
theorem iMd_match : Cond.initialized yMd_match.cls ∈ gT := gT_in 68 (by decide +kernel) rfl
theorem mMd_match : okM yMd_match 1 := ⟨by decide, by decide, by unfold nPar; decide +kernel⟩
theorem nMd_match : Cond.instanceMethod yMd_match ∈ gT := gT_in 1601 (by decide +kernel) rfl
theorem lMd_match : Cond.selects "MatchPipeModel" yMd_match yMd_match ∈ gT := gT_in 46 (by decide +kernel) rfl
def fMd_match_7  : Nat → Nat → Int32 → Int32 → Int32 → Sx → Option (Int32 × Sx)
  | 0, _, _, _, _, _ => none
  | n + 1, x0, x1, x2, x3, S =>
    (gX S 12 35 x0).bind fun v1 =>
    (aI S v1 x1).bind fun v3 =>
    if ((20 * x1) + v3) ≤ x3 then
    (some (x2, S))
    else
    ((ckd S x0 12).bind fun _ =>
    bd2 (fMd_fits x0 x1 x3 S) fun r7 S8 =>
    if r7 = 0 then
    (fMd_match_7 n x0 x1 x2 (x3 + 1) S8)
    else
    (if x2 < 0 then
    (fMd_match_7 n x0 x1 x3 (x3 + 1) S8)
    else
    ((ckd S8 x0 12).bind fun _ =>
    bd2 (fMd_prefix x0 x1 x3 S8) fun r11 S12 =>
    (ckd S12 x0 12).bind fun _ =>
    bd2 (fMd_prefix x0 x1 x2 S12) fun r15 S16 =>
    if r15 < r11 then
    (fMd_match_7 n x0 x1 x3 (x3 + 1) S16)
    else
    ((ckd S16 x0 12).bind fun _ =>
    bd2 (fMd_prefix x0 x1 x3 S16) fun r19 S20 =>
    (ckd S20 x0 12).bind fun _ =>
    bd2 (fMd_prefix x0 x1 x2 S20) fun r23 S24 =>
    if r19 = r23 then
    ((gX S24 12 40 x0).bind fun v25 =>
    (aI S24 v25 x3).bind fun v27 =>
    (gX S24 12 40 x0).bind fun v29 =>
    (aI S24 v29 x2).bind fun v31 =>
    if v27 ≤ v31 then
    (fMd_match_7 n x0 x1 x2 (x3 + 1) S24)
    else
    (fMd_match_7 n x0 x1 x3 (x3 + 1) S24))
    else
    (fMd_match_7 n x0 x1 x2 (x3 + 1) S24)))))
set_option maxRecDepth 100000 in
set_option maxHeartbeats 4000000 in
theorem wMd_match_7 {Γ : vG} (hR : gR Γ = rMd_match) (hl : (gl Γ).flags = pinnedFlags ++ [noTraceFlag]) {X : Int32 × Sx}  : ∀ (n : Nat) (x0 : Nat) (x1 : Int32) (x2 : Int32) (x3 : Int32) (S : Sx), fMd_match_7  n x0 x1 x2 x3 S = some X → vV Γ tMd_match (mQ Γ 0 0 0 (some (.int X.1)) X.2) S 0 0 7 [(0, .ref x0), (1, .int x1), (2, .int x2), (3, .int x3)] [] := by
  intro n
  induction n with
  | zero => intro x0 x1 x2 x3 S h; rw [fMd_match_7] at h; cases h
  | succ n ih =>
    intro x0 x1 x2 x3 S h
    rw [fMd_match_7] at h
    refine v_iload_n (pc := 7) (show decode (tC tMd_match) 7 = .ok (.iload_n 3, 1) by decide +kernel) 3 rfl rfl ?_
    refine v_bipush (pc := 8) (v := 20) (show decode (tC tMd_match) 8 = .ok (.bipush 20, 2) by decide +kernel) (by decide) ?_
    refine v_iload_n (pc := 10) (show decode (tC tMd_match) 10 = .ok (.iload_n 1, 1) by decide +kernel) 1 rfl rfl ?_
    refine v_imul (pc := 11) (show decode (tC tMd_match) 11 = .ok (.imul, 1) by decide +kernel) ?_
    refine v_aload_n (pc := 12) (show decode (tC tMd_match) 12 = .ok (.aload_n 0, 1) by decide +kernel) 0 rfl rfl ?_
    obtain ⟨v1, e2, h⟩ := ob h
    refine v_getX (pc := 13) oF_Md_89 e2 (show decode (tC tMd_match) 13 = .ok (.getfield 89, 3) by decide +kernel) ?_
    refine v_iload_n (pc := 16) (show decode (tC tMd_match) 16 = .ok (.iload_n 1, 1) by decide +kernel) 1 rfl rfl ?_
    obtain ⟨v3, e4, h⟩ := ob h
    refine v_iald (pc := 17) e4 (show decode (tC tMd_match) 17 = .ok (.iaload, 1) by decide +kernel) ?_
    refine v_iadd (pc := 18) (show decode (tC tMd_match) 18 = .ok (.iadd, 1) by decide +kernel) ?_
    refine v_icmp_ge (pc := 19) 91 (show decode (tC tMd_match) 19 = .ok (.if_icmp .ge 72, 3) by decide +kernel) (by decide) (fun c => ?_) (fun c => ?_)
    · replace h := ite_t c h
      refine v_iload_n (pc := 91) (show decode (tC tMd_match) 91 = .ok (.iload_n 2, 1) by decide +kernel) 2 rfl rfl ?_
      obtain rfl := Option.some.inj h
      refine v_wide (ce2 := 0) (sl2 := 0) (by decide) (by decide) ?_
      exact v_iret (pc := 92) rfl (show decode (tC tMd_match) 92 = .ok (.ireturn, 1) by decide +kernel)
    · replace h := ite_f c h
      refine v_aload_n (pc := 22) (show decode (tC tMd_match) 22 = .ok (.aload_n 0, 1) by decide +kernel) 0 rfl rfl ?_
      refine v_iload_n (pc := 23) (show decode (tC tMd_match) 23 = .ok (.iload_n 1, 1) by decide +kernel) 1 rfl rfl ?_
      refine v_iload_n (pc := 24) (show decode (tC tMd_match) 24 = .ok (.iload_n 3, 1) by decide +kernel) 3 rfl rfl ?_
      obtain ⟨_, e6, h⟩ := ob h
      obtain ⟨r7, S8, e5, h⟩ := ob2 h
      refine v_call (pc := 25) (v := (some (.int r7))) (y := yMd_fits) (θ' := tMd_fits) (rm := rMd_fits) (av := [.ref x0, .int x1, .int x3]) (st := []) (cMd_fits (l := gl Γ) hl e5) kMd_fits iMd_fits (iv_virt (y := yMd_fits) (θ' := tMd_fits) (kd := 12) (As := [.int x1, .int x3]) rfl (ckd_of e6) kMd_fits (gT_in 1603 (by decide +kernel) rfl) nMd_fits lMd_fits mMd_fits rfl (show decode (tC tMd_match) 25 = .ok (.invokevirtual 316, 3) by decide +kernel)) ⟨by rw [hR]; decide, by rw [hR]; decide, by rw [hR]; decide, by rw [hR]; decide⟩ (Nat.le_of_ble_eq_true rfl) ?_
      refine v_if_ne (pc := 28) 34 (show decode (tC tMd_match) 28 = .ok (.ifCond .ne 6, 3) by decide +kernel) (by decide) (fun c => ?_) (fun c => ?_)
      · replace h := ite_f c h
        refine v_iload_n (pc := 34) (show decode (tC tMd_match) 34 = .ok (.iload_n 2, 1) by decide +kernel) 2 rfl rfl ?_
        refine v_if_lt (pc := 35) 83 (show decode (tC tMd_match) 35 = .ok (.ifCond .lt 48, 3) by decide +kernel) (by decide) (fun c => ?_) (fun c => ?_)
        · replace h := ite_t c h
          refine v_iload_n (pc := 83) (show decode (tC tMd_match) 83 = .ok (.iload_n 3, 1) by decide +kernel) 3 rfl rfl ?_
          refine v_istore_n (pc := 84) [(2, .int x3), (0, .ref x0), (1, .int x1), (3, .int x3)] (show decode (tC tMd_match) 84 = .ok (.istore_n 2, 1) by decide +kernel) rfl (by decide) rfl ?_
          refine v_iinc (pc := 85) (j := 3) [(3, .int (x3 + 1)), (2, .int x3), (0, .ref x0), (1, .int x1)] (show decode (tC tMd_match) 85 = .ok (.iinc 3 1, 3) by decide +kernel) rfl rfl (by decide) rfl ?_
          refine v_goto (pc := 88) 7 (show decode (tC tMd_match) 88 = .ok (.goto (-81), 3) by decide +kernel) (by decide) ?_
          refine v_sub [(0, .ref x0), (1, .int x1), (2, .int x3), (3, .int (x3 + 1))] [2, 3, 1, 0] rfl ?_
          exact ih x0 x1 x3 (x3 + 1) S8 h
        · replace h := ite_f c h
          refine v_aload_n (pc := 38) (show decode (tC tMd_match) 38 = .ok (.aload_n 0, 1) by decide +kernel) 0 rfl rfl ?_
          refine v_iload_n (pc := 39) (show decode (tC tMd_match) 39 = .ok (.iload_n 1, 1) by decide +kernel) 1 rfl rfl ?_
          refine v_iload_n (pc := 40) (show decode (tC tMd_match) 40 = .ok (.iload_n 3, 1) by decide +kernel) 3 rfl rfl ?_
          obtain ⟨_, e10, h⟩ := ob h
          obtain ⟨r11, S12, e9, h⟩ := ob2 h
          refine v_call (pc := 41) (v := (some (.int r11))) (y := yMd_prefix) (θ' := tMd_prefix) (rm := rMd_prefix) (av := [.ref x0, .int x1, .int x3]) (st := []) (cMd_prefix (l := gl Γ) hl e9) kMd_prefix iMd_prefix (iv_virt (y := yMd_prefix) (θ' := tMd_prefix) (kd := 12) (As := [.int x1, .int x3]) rfl (ckd_of e10) kMd_prefix (gT_in 1607 (by decide +kernel) rfl) nMd_prefix lMd_prefix mMd_prefix rfl (show decode (tC tMd_match) 41 = .ok (.invokevirtual 319, 3) by decide +kernel)) ⟨by rw [hR]; decide, by rw [hR]; decide, by rw [hR]; decide, by rw [hR]; decide⟩ (Nat.le_of_ble_eq_true rfl) ?_
          refine v_aload_n (pc := 44) (show decode (tC tMd_match) 44 = .ok (.aload_n 0, 1) by decide +kernel) 0 rfl rfl ?_
          refine v_iload_n (pc := 45) (show decode (tC tMd_match) 45 = .ok (.iload_n 1, 1) by decide +kernel) 1 rfl rfl ?_
          refine v_iload_n (pc := 46) (show decode (tC tMd_match) 46 = .ok (.iload_n 2, 1) by decide +kernel) 2 rfl rfl ?_
          obtain ⟨_, e14, h⟩ := ob h
          obtain ⟨r15, S16, e13, h⟩ := ob2 h
          refine v_call (pc := 47) (v := (some (.int r15))) (y := yMd_prefix) (θ' := tMd_prefix) (rm := rMd_prefix) (av := [.ref x0, .int x1, .int x2]) (st := [.int r11]) (cMd_prefix (l := gl Γ) hl e13) kMd_prefix iMd_prefix (iv_virt (y := yMd_prefix) (θ' := tMd_prefix) (kd := 12) (As := [.int x1, .int x2]) rfl (ckd_of e14) kMd_prefix (gT_in 1607 (by decide +kernel) rfl) nMd_prefix lMd_prefix mMd_prefix rfl (show decode (tC tMd_match) 47 = .ok (.invokevirtual 319, 3) by decide +kernel)) ⟨by rw [hR]; decide, by rw [hR]; decide, by rw [hR]; decide, by rw [hR]; decide⟩ (Nat.le_of_ble_eq_true rfl) ?_
          refine v_icmp_gt (pc := 50) 83 (show decode (tC tMd_match) 50 = .ok (.if_icmp .gt 33, 3) by decide +kernel) (by decide) (fun c => ?_) (fun c => ?_)
          · replace h := ite_t c h
            refine v_iload_n (pc := 83) (show decode (tC tMd_match) 83 = .ok (.iload_n 3, 1) by decide +kernel) 3 rfl rfl ?_
            refine v_istore_n (pc := 84) [(2, .int x3), (0, .ref x0), (1, .int x1), (3, .int x3)] (show decode (tC tMd_match) 84 = .ok (.istore_n 2, 1) by decide +kernel) rfl (by decide) rfl ?_
            refine v_iinc (pc := 85) (j := 3) [(3, .int (x3 + 1)), (2, .int x3), (0, .ref x0), (1, .int x1)] (show decode (tC tMd_match) 85 = .ok (.iinc 3 1, 3) by decide +kernel) rfl rfl (by decide) rfl ?_
            refine v_goto (pc := 88) 7 (show decode (tC tMd_match) 88 = .ok (.goto (-81), 3) by decide +kernel) (by decide) ?_
            refine v_sub [(0, .ref x0), (1, .int x1), (2, .int x3), (3, .int (x3 + 1))] [2, 3, 1, 0] rfl ?_
            exact ih x0 x1 x3 (x3 + 1) S16 h
          · replace h := ite_f c h
            refine v_aload_n (pc := 53) (show decode (tC tMd_match) 53 = .ok (.aload_n 0, 1) by decide +kernel) 0 rfl rfl ?_
            refine v_iload_n (pc := 54) (show decode (tC tMd_match) 54 = .ok (.iload_n 1, 1) by decide +kernel) 1 rfl rfl ?_
            refine v_iload_n (pc := 55) (show decode (tC tMd_match) 55 = .ok (.iload_n 3, 1) by decide +kernel) 3 rfl rfl ?_
            obtain ⟨_, e18, h⟩ := ob h
            obtain ⟨r19, S20, e17, h⟩ := ob2 h
            refine v_call (pc := 56) (v := (some (.int r19))) (y := yMd_prefix) (θ' := tMd_prefix) (rm := rMd_prefix) (av := [.ref x0, .int x1, .int x3]) (st := []) (cMd_prefix (l := gl Γ) hl e17) kMd_prefix iMd_prefix (iv_virt (y := yMd_prefix) (θ' := tMd_prefix) (kd := 12) (As := [.int x1, .int x3]) rfl (ckd_of e18) kMd_prefix (gT_in 1607 (by decide +kernel) rfl) nMd_prefix lMd_prefix mMd_prefix rfl (show decode (tC tMd_match) 56 = .ok (.invokevirtual 319, 3) by decide +kernel)) ⟨by rw [hR]; decide, by rw [hR]; decide, by rw [hR]; decide, by rw [hR]; decide⟩ (Nat.le_of_ble_eq_true rfl) ?_
            refine v_aload_n (pc := 59) (show decode (tC tMd_match) 59 = .ok (.aload_n 0, 1) by decide +kernel) 0 rfl rfl ?_
            refine v_iload_n (pc := 60) (show decode (tC tMd_match) 60 = .ok (.iload_n 1, 1) by decide +kernel) 1 rfl rfl ?_
            refine v_iload_n (pc := 61) (show decode (tC tMd_match) 61 = .ok (.iload_n 2, 1) by decide +kernel) 2 rfl rfl ?_
            obtain ⟨_, e22, h⟩ := ob h
            obtain ⟨r23, S24, e21, h⟩ := ob2 h
            refine v_call (pc := 62) (v := (some (.int r23))) (y := yMd_prefix) (θ' := tMd_prefix) (rm := rMd_prefix) (av := [.ref x0, .int x1, .int x2]) (st := [.int r19]) (cMd_prefix (l := gl Γ) hl e21) kMd_prefix iMd_prefix (iv_virt (y := yMd_prefix) (θ' := tMd_prefix) (kd := 12) (As := [.int x1, .int x2]) rfl (ckd_of e22) kMd_prefix (gT_in 1607 (by decide +kernel) rfl) nMd_prefix lMd_prefix mMd_prefix rfl (show decode (tC tMd_match) 62 = .ok (.invokevirtual 319, 3) by decide +kernel)) ⟨by rw [hR]; decide, by rw [hR]; decide, by rw [hR]; decide, by rw [hR]; decide⟩ (Nat.le_of_ble_eq_true rfl) ?_
            refine v_icmp_ne (pc := 65) 85 (show decode (tC tMd_match) 65 = .ok (.if_icmp .ne 20, 3) by decide +kernel) (by decide) (fun c => ?_) (fun c => ?_)
            · replace h := ite_f c h
              refine v_iinc (pc := 85) (j := 3) [(3, .int (x3 + 1)), (0, .ref x0), (1, .int x1), (2, .int x2)] (show decode (tC tMd_match) 85 = .ok (.iinc 3 1, 3) by decide +kernel) rfl rfl (by decide) rfl ?_
              refine v_goto (pc := 88) 7 (show decode (tC tMd_match) 88 = .ok (.goto (-81), 3) by decide +kernel) (by decide) ?_
              refine v_sub [(0, .ref x0), (1, .int x1), (2, .int x2), (3, .int (x3 + 1))] [1, 2, 3, 0] rfl ?_
              exact ih x0 x1 x2 (x3 + 1) S24 h
            · replace h := ite_t c h
              refine v_aload_n (pc := 68) (show decode (tC tMd_match) 68 = .ok (.aload_n 0, 1) by decide +kernel) 0 rfl rfl ?_
              obtain ⟨v25, e26, h⟩ := ob h
              refine v_getX (pc := 69) oF_Md_104 e26 (show decode (tC tMd_match) 69 = .ok (.getfield 104, 3) by decide +kernel) ?_
              refine v_iload_n (pc := 72) (show decode (tC tMd_match) 72 = .ok (.iload_n 3, 1) by decide +kernel) 3 rfl rfl ?_
              obtain ⟨v27, e28, h⟩ := ob h
              refine v_iald (pc := 73) e28 (show decode (tC tMd_match) 73 = .ok (.iaload, 1) by decide +kernel) ?_
              refine v_aload_n (pc := 74) (show decode (tC tMd_match) 74 = .ok (.aload_n 0, 1) by decide +kernel) 0 rfl rfl ?_
              obtain ⟨v29, e30, h⟩ := ob h
              refine v_getX (pc := 75) oF_Md_104 e30 (show decode (tC tMd_match) 75 = .ok (.getfield 104, 3) by decide +kernel) ?_
              refine v_iload_n (pc := 78) (show decode (tC tMd_match) 78 = .ok (.iload_n 2, 1) by decide +kernel) 2 rfl rfl ?_
              obtain ⟨v31, e32, h⟩ := ob h
              refine v_iald (pc := 79) e32 (show decode (tC tMd_match) 79 = .ok (.iaload, 1) by decide +kernel) ?_
              refine v_icmp_le (pc := 80) 85 (show decode (tC tMd_match) 80 = .ok (.if_icmp .le 5, 3) by decide +kernel) (by decide) (fun c => ?_) (fun c => ?_)
              · replace h := ite_t c h
                refine v_iinc (pc := 85) (j := 3) [(3, .int (x3 + 1)), (0, .ref x0), (1, .int x1), (2, .int x2)] (show decode (tC tMd_match) 85 = .ok (.iinc 3 1, 3) by decide +kernel) rfl rfl (by decide) rfl ?_
                refine v_goto (pc := 88) 7 (show decode (tC tMd_match) 88 = .ok (.goto (-81), 3) by decide +kernel) (by decide) ?_
                refine v_sub [(0, .ref x0), (1, .int x1), (2, .int x2), (3, .int (x3 + 1))] [1, 2, 3, 0] rfl ?_
                exact ih x0 x1 x2 (x3 + 1) S24 h
              · replace h := ite_f c h
                refine v_iload_n (pc := 83) (show decode (tC tMd_match) 83 = .ok (.iload_n 3, 1) by decide +kernel) 3 rfl rfl ?_
                refine v_istore_n (pc := 84) [(2, .int x3), (0, .ref x0), (1, .int x1), (3, .int x3)] (show decode (tC tMd_match) 84 = .ok (.istore_n 2, 1) by decide +kernel) rfl (by decide) rfl ?_
                refine v_iinc (pc := 85) (j := 3) [(3, .int (x3 + 1)), (2, .int x3), (0, .ref x0), (1, .int x1)] (show decode (tC tMd_match) 85 = .ok (.iinc 3 1, 3) by decide +kernel) rfl rfl (by decide) rfl ?_
                refine v_goto (pc := 88) 7 (show decode (tC tMd_match) 88 = .ok (.goto (-81), 3) by decide +kernel) (by decide) ?_
                refine v_sub [(0, .ref x0), (1, .int x1), (2, .int x3), (3, .int (x3 + 1))] [2, 3, 1, 0] rfl ?_
                exact ih x0 x1 x3 (x3 + 1) S24 h
      · replace h := ite_t c h
        refine v_goto (pc := 31) 85 (show decode (tC tMd_match) 31 = .ok (.goto 54, 3) by decide +kernel) (by decide) ?_
        refine v_iinc (pc := 85) (j := 3) [(3, .int (x3 + 1)), (0, .ref x0), (1, .int x1), (2, .int x2)] (show decode (tC tMd_match) 85 = .ok (.iinc 3 1, 3) by decide +kernel) rfl rfl (by decide) rfl ?_
        refine v_goto (pc := 88) 7 (show decode (tC tMd_match) 88 = .ok (.goto (-81), 3) by decide +kernel) (by decide) ?_
        refine v_sub [(0, .ref x0), (1, .int x1), (2, .int x2), (3, .int (x3 + 1))] [1, 2, 3, 0] rfl ?_
        exact ih x0 x1 x2 (x3 + 1) S8 h
def fMd_match (x0 : Nat) (x1 : Int32) (S : Sx) : Option (Int32 × Sx) :=
    fMd_match_7  fuel x0 x1 (-1) (20 * x1) S
set_option maxRecDepth 100000 in
set_option maxHeartbeats 4000000 in
theorem wMd_match {Γ : vG} (hR : gR Γ = rMd_match) (hl : (gl Γ).flags = pinnedFlags ++ [noTraceFlag]) (x0 : Nat) (x1 : Int32) (S : Sx) {X : Int32 × Sx} (h : fMd_match x0 x1 S = some X) : vV Γ tMd_match (mQ Γ 0 0 0 (some (.int X.1)) X.2) S 0 0 0 [(0, .ref x0), (1, .int x1)] [] := by
  unfold fMd_match at h
  refine v_iconst (pc := 0) (v := (-1)) (show decode (tC tMd_match) 0 = .ok (.iconst (-1), 1) by decide +kernel) (by decide) ?_
  refine v_istore_n (pc := 1) [(2, .int (-1)), (0, .ref x0), (1, .int x1)] (show decode (tC tMd_match) 1 = .ok (.istore_n 2, 1) by decide +kernel) rfl (by decide) rfl ?_
  refine v_bipush (pc := 2) (v := 20) (show decode (tC tMd_match) 2 = .ok (.bipush 20, 2) by decide +kernel) (by decide) ?_
  refine v_iload_n (pc := 4) (show decode (tC tMd_match) 4 = .ok (.iload_n 1, 1) by decide +kernel) 2 rfl rfl ?_
  refine v_imul (pc := 5) (show decode (tC tMd_match) 5 = .ok (.imul, 1) by decide +kernel) ?_
  refine v_istore_n (pc := 6) [(3, .int (20 * x1)), (2, .int (-1)), (0, .ref x0), (1, .int x1)] (show decode (tC tMd_match) 6 = .ok (.istore_n 3, 1) by decide +kernel) rfl (by decide) rfl ?_
  refine v_sub [(0, .ref x0), (1, .int x1), (2, .int (-1)), (3, .int (20 * x1))] [2, 3, 1, 0] rfl ?_
  exact wMd_match_7 hR hl  fuel x0 x1 (-1) (20 * x1) S h
theorem cMd_match {l : Launch} (hl : l.flags = pinnedFlags ++ [noTraceFlag]) {D : va_G} {dA : Nat → ClassId} {B : Nat} {x0 : Nat} {x1 : Int32} {S : Sx} {X : Int32 × Sx} (h : fMd_match x0 x1 S = some X) : Mx l yMd_match tMd_match rMd_match 0 0 D dA B S [.ref x0, .int x1] 0 (some (.int X.1)) X.2 :=
  mx_of hl (by decide) rfl rfl (Nat.le_of_ble_eq_true rfl) (fun Γ e1 e2 e3 e4 e5 => by subst e1; subst e3; subst e4; subst e5; exact wMd_match e2 hl x0 x1 S h)
/-! MatchPipeModel.goThrough()V -/
def yMd_goThrough : MethodName := ⟨"MatchPipeModel", "goThrough", "()V"⟩
def tMd_goThrough : tM := (prog_14_method_48_code, "MatchPipeModel", 4, "goThrough", none, [])
def rMd_goThrough : Room := { frames := 3, cells := 0, slots := 0, locals := 67 }
theorem kMd_goThrough : cOf yMd_goThrough tMd_goThrough ∈ gT := gT_in 1593 (by decide +kernel) rfl
theorem iMd_goThrough : Cond.initialized yMd_goThrough.cls ∈ gT := gT_in 68 (by decide +kernel) rfl
theorem mMd_goThrough : okM yMd_goThrough 0 := ⟨by decide, by decide, by unfold nPar; decide +kernel⟩
theorem nMd_goThrough : Cond.instanceMethod yMd_goThrough ∈ gT := gT_in 1592 (by decide +kernel) rfl
theorem lMd_goThrough : Cond.selects "MatchPipeModel" yMd_goThrough yMd_goThrough ∈ gT := gT_in 44 (by decide +kernel) rfl
def fMd_goThrough_99 (k2 : Nat → Int32 → Sx → Option (Sx)) (x0 : Nat) (x1 : Int32) (z0 : Int32) (z1 : Int32) (z2 : Int32) (z3 : Nat) (S : Sx) : Option (Sx) :=
    (ckd S z3 12).bind fun _ =>
    (fMd_doAll z3 z2 z1 z0 S).bind fun S3 =>
    k2 x0 (x1 + 1) S3
set_option maxRecDepth 100000 in
set_option maxHeartbeats 4000000 in
theorem wMd_goThrough_99 {Γ : vG} (hR : gR Γ = rMd_goThrough) (hl : (gl Γ).flags = pinnedFlags ++ [noTraceFlag]) {X : Sx} {k2 : Nat → Int32 → Sx → Option (Sx)} (hk2 : ∀ (x0 : Nat) (x1 : Int32) (S : Sx), k2 x0 x1 S = some X → vV Γ tMd_goThrough (mQ Γ 0 0 0 none X) S 0 0 2 [(0, .ref x0), (1, .int x1)] []) : ∀ (x0 : Nat) (x1 : Int32) (z0 : Int32) (z1 : Int32) (z2 : Int32) (z3 : Nat) (S : Sx), fMd_goThrough_99 k2 x0 x1 z0 z1 z2 z3 S = some X → vV Γ tMd_goThrough (mQ Γ 0 0 0 none X) S 0 0 99 [(0, .ref x0), (1, .int x1)] [.int z0, .int z1, .int z2, .ref z3] := by
  intro x0 x1 z0 z1 z2 z3 S h
  unfold fMd_goThrough_99 at h
  obtain ⟨_, e2, h⟩ := ob h
  obtain ⟨S3, e1, h⟩ := ob h
  refine v_call (pc := 99) (v := none) (y := yMd_doAll) (θ' := tMd_doAll) (rm := rMd_doAll) (av := [.ref z3, .int z2, .int z1, .int z0]) (st := []) (cMd_doAll (l := gl Γ) hl e1) kMd_doAll iMd_doAll (iv_virt (y := yMd_doAll) (θ' := tMd_doAll) (kd := 12) (As := [.int z2, .int z1, .int z0]) rfl (ckd_of e2) kMd_doAll (gT_in 1614 (by decide +kernel) rfl) nMd_doAll lMd_doAll mMd_doAll rfl (show decode (tC tMd_goThrough) 99 = .ok (.invokevirtual 329, 3) by decide +kernel)) ⟨by rw [hR]; decide, by rw [hR]; decide, by rw [hR]; decide, by rw [hR]; decide⟩ (Nat.le_of_ble_eq_true rfl) ?_
  refine v_iinc (pc := 102) (j := 1) [(1, .int (x1 + 1)), (0, .ref x0)] (show decode (tC tMd_goThrough) 102 = .ok (.iinc 1 1, 3) by decide +kernel) rfl rfl (by decide) rfl ?_
  refine v_goto (pc := 105) 2 (show decode (tC tMd_goThrough) 105 = .ok (.goto (-103), 3) by decide +kernel) (by decide) ?_
  refine v_sub [(0, .ref x0), (1, .int (x1 + 1))] [1, 0] rfl ?_
  exact hk2 x0 (x1 + 1) S3 h
def fMd_goThrough_85 (k2 : Nat → Int32 → Sx → Option (Sx)) (x0 : Nat) (x1 : Int32) (x3 : Int32) (z0 : Int32) (z1 : Int32) (z2 : Nat) (S : Sx) : Option (Sx) :=
    if (0 : Int32) ≤ x3 then
    ((gX S 12 43 x0).bind fun v1 =>
    (aI S v1 x3).bind fun v3 =>
    fMd_goThrough_99 k2 x0 x1 v3 z0 z1 z2 S)
    else
    (fMd_goThrough_99 k2 x0 x1 0 z0 z1 z2 S)
set_option maxRecDepth 100000 in
set_option maxHeartbeats 4000000 in
theorem wMd_goThrough_85 {Γ : vG} (hR : gR Γ = rMd_goThrough) (hl : (gl Γ).flags = pinnedFlags ++ [noTraceFlag]) {X : Sx} {k2 : Nat → Int32 → Sx → Option (Sx)} (hk2 : ∀ (x0 : Nat) (x1 : Int32) (S : Sx), k2 x0 x1 S = some X → vV Γ tMd_goThrough (mQ Γ 0 0 0 none X) S 0 0 2 [(0, .ref x0), (1, .int x1)] []) : ∀ (x0 : Nat) (x1 : Int32) (x3 : Int32) (z0 : Int32) (z1 : Int32) (z2 : Nat) (S : Sx), fMd_goThrough_85 k2 x0 x1 x3 z0 z1 z2 S = some X → vV Γ tMd_goThrough (mQ Γ 0 0 0 none X) S 0 0 85 [(0, .ref x0), (1, .int x1), (3, .int x3)] [.int z0, .int z1, .ref z2] := by
  intro x0 x1 x3 z0 z1 z2 S h
  unfold fMd_goThrough_85 at h
  refine v_iload_n (pc := 85) (show decode (tC tMd_goThrough) 85 = .ok (.iload_n 3, 1) by decide +kernel) 2 rfl rfl ?_
  refine v_if_ge (pc := 86) 93 (show decode (tC tMd_goThrough) 86 = .ok (.ifCond .ge 7, 3) by decide +kernel) (by decide) (fun c => ?_) (fun c => ?_)
  · replace h := ite_t c h
    refine v_aload_n (pc := 93) (show decode (tC tMd_goThrough) 93 = .ok (.aload_n 0, 1) by decide +kernel) 0 rfl rfl ?_
    obtain ⟨v1, e2, h⟩ := ob h
    refine v_getX (pc := 94) oF_Md_113 e2 (show decode (tC tMd_goThrough) 94 = .ok (.getfield 113, 3) by decide +kernel) ?_
    refine v_iload_n (pc := 97) (show decode (tC tMd_goThrough) 97 = .ok (.iload_n 3, 1) by decide +kernel) 2 rfl rfl ?_
    obtain ⟨v3, e4, h⟩ := ob h
    refine v_iald (pc := 98) e4 (show decode (tC tMd_goThrough) 98 = .ok (.iaload, 1) by decide +kernel) ?_
    refine v_sub [(0, .ref x0), (1, .int x1)] [0, 1] rfl ?_
    exact wMd_goThrough_99 hR hl hk2 x0 x1 v3 z0 z1 z2 S h
  · replace h := ite_f c h
    refine v_iconst (pc := 89) (v := 0) (show decode (tC tMd_goThrough) 89 = .ok (.iconst 0, 1) by decide +kernel) (by decide) ?_
    refine v_goto (pc := 90) 99 (show decode (tC tMd_goThrough) 90 = .ok (.goto 9, 3) by decide +kernel) (by decide) ?_
    refine v_sub [(0, .ref x0), (1, .int x1)] [0, 1] rfl ?_
    exact wMd_goThrough_99 hR hl hk2 x0 x1 0 z0 z1 z2 S h
def fMd_goThrough_71 (k2 : Nat → Int32 → Sx → Option (Sx)) (x0 : Nat) (x1 : Int32) (x3 : Int32) (z0 : Int32) (z1 : Nat) (S : Sx) : Option (Sx) :=
    if (0 : Int32) ≤ x3 then
    ((gX S 12 42 x0).bind fun v1 =>
    (aI S v1 x3).bind fun v3 =>
    fMd_goThrough_85 k2 x0 x1 x3 v3 z0 z1 S)
    else
    (fMd_goThrough_85 k2 x0 x1 x3 0 z0 z1 S)
set_option maxRecDepth 100000 in
set_option maxHeartbeats 4000000 in
theorem wMd_goThrough_71 {Γ : vG} (hR : gR Γ = rMd_goThrough) (hl : (gl Γ).flags = pinnedFlags ++ [noTraceFlag]) {X : Sx} {k2 : Nat → Int32 → Sx → Option (Sx)} (hk2 : ∀ (x0 : Nat) (x1 : Int32) (S : Sx), k2 x0 x1 S = some X → vV Γ tMd_goThrough (mQ Γ 0 0 0 none X) S 0 0 2 [(0, .ref x0), (1, .int x1)] []) : ∀ (x0 : Nat) (x1 : Int32) (x3 : Int32) (z0 : Int32) (z1 : Nat) (S : Sx), fMd_goThrough_71 k2 x0 x1 x3 z0 z1 S = some X → vV Γ tMd_goThrough (mQ Γ 0 0 0 none X) S 0 0 71 [(0, .ref x0), (1, .int x1), (3, .int x3)] [.int z0, .ref z1] := by
  intro x0 x1 x3 z0 z1 S h
  unfold fMd_goThrough_71 at h
  refine v_iload_n (pc := 71) (show decode (tC tMd_goThrough) 71 = .ok (.iload_n 3, 1) by decide +kernel) 2 rfl rfl ?_
  refine v_if_ge (pc := 72) 79 (show decode (tC tMd_goThrough) 72 = .ok (.ifCond .ge 7, 3) by decide +kernel) (by decide) (fun c => ?_) (fun c => ?_)
  · replace h := ite_t c h
    refine v_aload_n (pc := 79) (show decode (tC tMd_goThrough) 79 = .ok (.aload_n 0, 1) by decide +kernel) 0 rfl rfl ?_
    obtain ⟨v1, e2, h⟩ := ob h
    refine v_getX (pc := 80) oF_Md_110 e2 (show decode (tC tMd_goThrough) 80 = .ok (.getfield 110, 3) by decide +kernel) ?_
    refine v_iload_n (pc := 83) (show decode (tC tMd_goThrough) 83 = .ok (.iload_n 3, 1) by decide +kernel) 2 rfl rfl ?_
    obtain ⟨v3, e4, h⟩ := ob h
    refine v_iald (pc := 84) e4 (show decode (tC tMd_goThrough) 84 = .ok (.iaload, 1) by decide +kernel) ?_
    exact wMd_goThrough_85 hR hl hk2 x0 x1 x3 v3 z0 z1 S h
  · replace h := ite_f c h
    refine v_iconst (pc := 75) (v := 0) (show decode (tC tMd_goThrough) 75 = .ok (.iconst 0, 1) by decide +kernel) (by decide) ?_
    refine v_goto (pc := 76) 85 (show decode (tC tMd_goThrough) 76 = .ok (.goto 9, 3) by decide +kernel) (by decide) ?_
    exact wMd_goThrough_85 hR hl hk2 x0 x1 x3 0 z0 z1 S h
def fMd_goThrough_2  : Nat → Nat → Int32 → Sx → Option (Sx)
  | 0, _, _, _ => none
  | n + 1, x0, x1, S =>
    (gI S 12 5 x0).bind fun v1 =>
    if v1 ≤ x1 then
    (some S)
    else
    ((gX S 12 27 x0).bind fun v3 =>
    (aI S v3 x1).bind fun v5 =>
    if (0 : Int32) ≤ v5 then
    ((ckd S x0 12).bind fun _ =>
    bd2 (fMd_match x0 v5 S) fun r9 S10 =>
    if (0 : Int32) ≤ r9 then
    ((gX S10 12 41 x0).bind fun v11 =>
    (aI S10 v11 r9).bind fun v13 =>
    fMd_goThrough_71 (fun y0 y1 T => fMd_goThrough_2 n y0 y1 T) x0 x1 r9 v13 x0 S10)
    else
    ((gX S10 12 26 x0).bind fun v15 =>
    (aI S10 v15 v5).bind fun v17 =>
    fMd_goThrough_71 (fun y0 y1 T => fMd_goThrough_2 n y0 y1 T) x0 x1 r9 v17 x0 S10))
    else
    ((ckd S x0 12).bind fun _ =>
    bd2 (fMd_holds x0 x1 S) fun r21 S22 =>
    if r21 = 0 then
    ((gX S22 12 31 x0).bind fun v23 =>
    (aI S22 v23 x1).bind fun v25 =>
    fMd_goThrough_2 n x0 v25 S22)
    else
    (fMd_goThrough_2 n x0 (x1 + 1) S22)))
set_option maxRecDepth 100000 in
set_option maxHeartbeats 4000000 in
theorem wMd_goThrough_2 {Γ : vG} (hR : gR Γ = rMd_goThrough) (hl : (gl Γ).flags = pinnedFlags ++ [noTraceFlag]) {X : Sx}  : ∀ (n : Nat) (x0 : Nat) (x1 : Int32) (S : Sx), fMd_goThrough_2  n x0 x1 S = some X → vV Γ tMd_goThrough (mQ Γ 0 0 0 none X) S 0 0 2 [(0, .ref x0), (1, .int x1)] [] := by
  intro n
  induction n with
  | zero => intro x0 x1 S h; rw [fMd_goThrough_2] at h; cases h
  | succ n ih =>
    intro x0 x1 S h
    rw [fMd_goThrough_2] at h
    refine v_iload_n (pc := 2) (show decode (tC tMd_goThrough) 2 = .ok (.iload_n 1, 1) by decide +kernel) 1 rfl rfl ?_
    refine v_aload_n (pc := 3) (show decode (tC tMd_goThrough) 3 = .ok (.aload_n 0, 1) by decide +kernel) 0 rfl rfl ?_
    obtain ⟨v1, e2, h⟩ := ob h
    refine v_getI (pc := 4) oF_Md_198 (by decide) e2 (show decode (tC tMd_goThrough) 4 = .ok (.getfield 198, 3) by decide +kernel) ?_
    refine v_icmp_ge (pc := 7) 108 (show decode (tC tMd_goThrough) 7 = .ok (.if_icmp .ge 101, 3) by decide +kernel) (by decide) (fun c => ?_) (fun c => ?_)
    · replace h := ite_t c h
      obtain rfl := Option.some.inj h
      refine v_wide (ce2 := 0) (sl2 := 0) (by decide) (by decide) ?_
      exact v_vret (pc := 108) rfl (show decode (tC tMd_goThrough) 108 = .ok (.return_, 1) by decide +kernel)
    · replace h := ite_f c h
      refine v_aload_n (pc := 10) (show decode (tC tMd_goThrough) 10 = .ok (.aload_n 0, 1) by decide +kernel) 0 rfl rfl ?_
      obtain ⟨v3, e4, h⟩ := ob h
      refine v_getX (pc := 11) oF_Md_67 e4 (show decode (tC tMd_goThrough) 11 = .ok (.getfield 67, 3) by decide +kernel) ?_
      refine v_iload_n (pc := 14) (show decode (tC tMd_goThrough) 14 = .ok (.iload_n 1, 1) by decide +kernel) 1 rfl rfl ?_
      obtain ⟨v5, e6, h⟩ := ob h
      refine v_iald (pc := 15) e6 (show decode (tC tMd_goThrough) 15 = .ok (.iaload, 1) by decide +kernel) ?_
      refine v_istore_n (pc := 16) [(2, .int v5), (0, .ref x0), (1, .int x1)] (show decode (tC tMd_goThrough) 16 = .ok (.istore_n 2, 1) by decide +kernel) rfl (by decide) rfl ?_
      refine v_iload_n (pc := 17) (show decode (tC tMd_goThrough) 17 = .ok (.iload_n 2, 1) by decide +kernel) 0 rfl rfl ?_
      refine v_if_ge (pc := 18) 45 (show decode (tC tMd_goThrough) 18 = .ok (.ifCond .ge 27, 3) by decide +kernel) (by decide) (fun c => ?_) (fun c => ?_)
      · replace h := ite_t c h
        refine v_aload_n (pc := 45) (show decode (tC tMd_goThrough) 45 = .ok (.aload_n 0, 1) by decide +kernel) 1 rfl rfl ?_
        refine v_iload_n (pc := 46) (show decode (tC tMd_goThrough) 46 = .ok (.iload_n 2, 1) by decide +kernel) 0 rfl rfl ?_
        obtain ⟨_, e8, h⟩ := ob h
        obtain ⟨r9, S10, e7, h⟩ := ob2 h
        refine v_call (pc := 47) (v := (some (.int r9))) (y := yMd_match) (θ' := tMd_match) (rm := rMd_match) (av := [.ref x0, .int v5]) (st := []) (cMd_match (l := gl Γ) hl e7) kMd_match iMd_match (iv_virt (y := yMd_match) (θ' := tMd_match) (kd := 12) (As := [.int v5]) rfl (ckd_of e8) kMd_match (gT_in 1599 (by decide +kernel) rfl) nMd_match lMd_match mMd_match rfl (show decode (tC tMd_goThrough) 47 = .ok (.invokevirtual 326, 3) by decide +kernel)) ⟨by rw [hR]; decide, by rw [hR]; decide, by rw [hR]; decide, by rw [hR]; decide⟩ (Nat.le_of_ble_eq_true rfl) ?_
        refine v_istore_n (pc := 50) [(3, .int r9), (2, .int v5), (0, .ref x0), (1, .int x1)] (show decode (tC tMd_goThrough) 50 = .ok (.istore_n 3, 1) by decide +kernel) rfl (by decide) rfl ?_
        refine v_aload_n (pc := 51) (show decode (tC tMd_goThrough) 51 = .ok (.aload_n 0, 1) by decide +kernel) 2 rfl rfl ?_
        refine v_iload_n (pc := 52) (show decode (tC tMd_goThrough) 52 = .ok (.iload_n 3, 1) by decide +kernel) 0 rfl rfl ?_
        refine v_if_ge (pc := 53) 65 (show decode (tC tMd_goThrough) 53 = .ok (.ifCond .ge 12, 3) by decide +kernel) (by decide) (fun c => ?_) (fun c => ?_)
        · replace h := ite_t c h
          refine v_aload_n (pc := 65) (show decode (tC tMd_goThrough) 65 = .ok (.aload_n 0, 1) by decide +kernel) 2 rfl rfl ?_
          obtain ⟨v11, e12, h⟩ := ob h
          refine v_getX (pc := 66) oF_Md_107 e12 (show decode (tC tMd_goThrough) 66 = .ok (.getfield 107, 3) by decide +kernel) ?_
          refine v_iload_n (pc := 69) (show decode (tC tMd_goThrough) 69 = .ok (.iload_n 3, 1) by decide +kernel) 0 rfl rfl ?_
          obtain ⟨v13, e14, h⟩ := ob h
          refine v_iald (pc := 70) e14 (show decode (tC tMd_goThrough) 70 = .ok (.iaload, 1) by decide +kernel) ?_
          refine v_sub [(0, .ref x0), (1, .int x1), (3, .int r9)] [2, 3, 0] rfl ?_
          exact wMd_goThrough_71 hR hl (fun y0 y1 T h => ih y0 y1 T h) x0 x1 r9 v13 x0 S10 h
        · replace h := ite_f c h
          refine v_aload_n (pc := 56) (show decode (tC tMd_goThrough) 56 = .ok (.aload_n 0, 1) by decide +kernel) 2 rfl rfl ?_
          obtain ⟨v15, e16, h⟩ := ob h
          refine v_getX (pc := 57) oF_Md_64 e16 (show decode (tC tMd_goThrough) 57 = .ok (.getfield 64, 3) by decide +kernel) ?_
          refine v_iload_n (pc := 60) (show decode (tC tMd_goThrough) 60 = .ok (.iload_n 2, 1) by decide +kernel) 1 rfl rfl ?_
          obtain ⟨v17, e18, h⟩ := ob h
          refine v_iald (pc := 61) e18 (show decode (tC tMd_goThrough) 61 = .ok (.iaload, 1) by decide +kernel) ?_
          refine v_goto (pc := 62) 71 (show decode (tC tMd_goThrough) 62 = .ok (.goto 9, 3) by decide +kernel) (by decide) ?_
          refine v_sub [(0, .ref x0), (1, .int x1), (3, .int r9)] [2, 3, 0] rfl ?_
          exact wMd_goThrough_71 hR hl (fun y0 y1 T h => ih y0 y1 T h) x0 x1 r9 v17 x0 S10 h
      · replace h := ite_f c h
        refine v_aload_n (pc := 21) (show decode (tC tMd_goThrough) 21 = .ok (.aload_n 0, 1) by decide +kernel) 1 rfl rfl ?_
        refine v_iload_n (pc := 22) (show decode (tC tMd_goThrough) 22 = .ok (.iload_n 1, 1) by decide +kernel) 2 rfl rfl ?_
        obtain ⟨_, e20, h⟩ := ob h
        obtain ⟨r21, S22, e19, h⟩ := ob2 h
        refine v_call (pc := 23) (v := (some (.int r21))) (y := yMd_holds) (θ' := tMd_holds) (rm := rMd_holds) (av := [.ref x0, .int x1]) (st := []) (cMd_holds (l := gl Γ) hl e19) kMd_holds iMd_holds (iv_virt (y := yMd_holds) (θ' := tMd_holds) (kd := 12) (As := [.int x1]) rfl (ckd_of e20) kMd_holds (gT_in 1594 (by decide +kernel) rfl) nMd_holds lMd_holds mMd_holds rfl (show decode (tC tMd_goThrough) 23 = .ok (.invokevirtual 323, 3) by decide +kernel)) ⟨by rw [hR]; decide, by rw [hR]; decide, by rw [hR]; decide, by rw [hR]; decide⟩ (Nat.le_of_ble_eq_true rfl) ?_
        refine v_if_eq (pc := 26) 35 (show decode (tC tMd_goThrough) 26 = .ok (.ifCond .eq 9, 3) by decide +kernel) (by decide) (fun c => ?_) (fun c => ?_)
        · replace h := ite_t c h
          refine v_aload_n (pc := 35) (show decode (tC tMd_goThrough) 35 = .ok (.aload_n 0, 1) by decide +kernel) 1 rfl rfl ?_
          obtain ⟨v23, e24, h⟩ := ob h
          refine v_getX (pc := 36) oF_Md_79 e24 (show decode (tC tMd_goThrough) 36 = .ok (.getfield 79, 3) by decide +kernel) ?_
          refine v_iload_n (pc := 39) (show decode (tC tMd_goThrough) 39 = .ok (.iload_n 1, 1) by decide +kernel) 2 rfl rfl ?_
          obtain ⟨v25, e26, h⟩ := ob h
          refine v_iald (pc := 40) e26 (show decode (tC tMd_goThrough) 40 = .ok (.iaload, 1) by decide +kernel) ?_
          refine v_istore_n (pc := 41) [(1, .int v25), (2, .int v5), (0, .ref x0)] (show decode (tC tMd_goThrough) 41 = .ok (.istore_n 1, 1) by decide +kernel) rfl (by decide) rfl ?_
          refine v_goto (pc := 42) 2 (show decode (tC tMd_goThrough) 42 = .ok (.goto (-40), 3) by decide +kernel) (by decide) ?_
          refine v_sub [(0, .ref x0), (1, .int v25)] [2, 0] rfl ?_
          exact ih x0 v25 S22 h
        · replace h := ite_f c h
          refine v_iload_n (pc := 29) (show decode (tC tMd_goThrough) 29 = .ok (.iload_n 1, 1) by decide +kernel) 2 rfl rfl ?_
          refine v_iconst (pc := 30) (v := 1) (show decode (tC tMd_goThrough) 30 = .ok (.iconst 1, 1) by decide +kernel) (by decide) ?_
          refine v_iadd (pc := 31) (show decode (tC tMd_goThrough) 31 = .ok (.iadd, 1) by decide +kernel) ?_
          refine v_goto (pc := 32) 41 (show decode (tC tMd_goThrough) 32 = .ok (.goto 9, 3) by decide +kernel) (by decide) ?_
          refine v_istore_n (pc := 41) [(1, .int (x1 + 1)), (2, .int v5), (0, .ref x0)] (show decode (tC tMd_goThrough) 41 = .ok (.istore_n 1, 1) by decide +kernel) rfl (by decide) rfl ?_
          refine v_goto (pc := 42) 2 (show decode (tC tMd_goThrough) 42 = .ok (.goto (-40), 3) by decide +kernel) (by decide) ?_
          refine v_sub [(0, .ref x0), (1, .int (x1 + 1))] [2, 0] rfl ?_
          exact ih x0 (x1 + 1) S22 h
def fMd_goThrough (x0 : Nat) (S : Sx) : Option (Sx) :=
    fMd_goThrough_2  fuel x0 0 S
set_option maxRecDepth 100000 in
set_option maxHeartbeats 4000000 in
theorem wMd_goThrough {Γ : vG} (hR : gR Γ = rMd_goThrough) (hl : (gl Γ).flags = pinnedFlags ++ [noTraceFlag]) (x0 : Nat) (S : Sx) {X : Sx} (h : fMd_goThrough x0 S = some X) : vV Γ tMd_goThrough (mQ Γ 0 0 0 none X) S 0 0 0 [(0, .ref x0)] [] := by
  unfold fMd_goThrough at h
  refine v_iconst (pc := 0) (v := 0) (show decode (tC tMd_goThrough) 0 = .ok (.iconst 0, 1) by decide +kernel) (by decide) ?_
  refine v_istore_n (pc := 1) [(1, .int 0), (0, .ref x0)] (show decode (tC tMd_goThrough) 1 = .ok (.istore_n 1, 1) by decide +kernel) rfl (by decide) rfl ?_
  refine v_sub [(0, .ref x0), (1, .int 0)] [1, 0] rfl ?_
  exact wMd_goThrough_2 hR hl  fuel x0 0 S h
theorem cMd_goThrough {l : Launch} (hl : l.flags = pinnedFlags ++ [noTraceFlag]) {D : va_G} {dA : Nat → ClassId} {B : Nat} {x0 : Nat} {S : Sx} {X : Sx} (h : fMd_goThrough x0 S = some X) : Mx l yMd_goThrough tMd_goThrough rMd_goThrough 0 0 D dA B S [.ref x0] 0 none X :=
  mx_of hl (by decide) rfl rfl (Nat.le_of_ble_eq_true rfl) (fun Γ e1 e2 e3 e4 e5 => by subst e1; subst e3; subst e4; subst e5; exact wMd_goThrough e2 hl x0 S h)
/-! MatchPipeModel.moveDown(I)V -/
def yMd_moveDown : MethodName := ⟨"MatchPipeModel", "moveDown", "(I)V"⟩
def tMd_moveDown : tM := (prog_14_method_52_code, "MatchPipeModel", 3, "moveDown", none, [])
def rMd_moveDown : Room := { frames := 0, cells := 0, slots := 0, locals := 0 }
theorem kMd_moveDown : cOf yMd_moveDown tMd_moveDown ∈ gT := gT_in 1629 (by decide +kernel) rfl
theorem iMd_moveDown : Cond.initialized yMd_moveDown.cls ∈ gT := gT_in 68 (by decide +kernel) rfl
theorem mMd_moveDown : okM yMd_moveDown 1 := ⟨by decide, by decide, by unfold nPar; decide +kernel⟩
theorem nMd_moveDown : Cond.instanceMethod yMd_moveDown ∈ gT := gT_in 1628 (by decide +kernel) rfl
theorem lMd_moveDown : Cond.selects "MatchPipeModel" yMd_moveDown yMd_moveDown ∈ gT := gT_in 52 (by decide +kernel) rfl
def fMd_moveDown_83  : Nat → Nat → Int32 → Int32 → Sx → Option (Sx)
  | 0, _, _, _, _ => none
  | n + 1, x0, x1, x2, S =>
    if (4 : Int32) ≤ x2 then
    ((gX S 12 62 x0).bind fun v1 =>
    (gX S 12 62 x0).bind fun v3 =>
    (aI S v3 (x1 + 1)).bind fun v5 =>
    (qI S v1 x1 v5).bind fun S7 =>
    (gX S7 12 63 x0).bind fun v9 =>
    (gX S7 12 63 x0).bind fun v11 =>
    (aI S7 v11 (x1 + 1)).bind fun v13 =>
    (qI S7 v9 x1 v13).bind fun S15 =>
    (gX S15 12 64 x0).bind fun v17 =>
    (gX S15 12 64 x0).bind fun v19 =>
    (aI S15 v19 (x1 + 1)).bind fun v21 =>
    (qI S15 v17 x1 v21).bind fun S23 =>
    (gX S23 12 65 x0).bind fun v25 =>
    (gX S23 12 65 x0).bind fun v27 =>
    (aI S23 v27 (x1 + 1)).bind fun v29 =>
    (qI S23 v25 x1 v29).bind fun S31 =>
    some S31)
    else
    ((gX S 12 61 x0).bind fun v33 =>
    (gX S 12 61 x0).bind fun v35 =>
    (aI S v35 (((4 * x1) + 4) + x2)).bind fun v37 =>
    (qI S v33 ((4 * x1) + x2) v37).bind fun S39 =>
    fMd_moveDown_83 n x0 x1 (x2 + 1) S39)
set_option maxRecDepth 100000 in
set_option maxHeartbeats 4000000 in
theorem wMd_moveDown_83 {Γ : vG} (hR : gR Γ = rMd_moveDown) (hl : (gl Γ).flags = pinnedFlags ++ [noTraceFlag]) {X : Sx}  : ∀ (n : Nat) (x0 : Nat) (x1 : Int32) (x2 : Int32) (S : Sx), fMd_moveDown_83  n x0 x1 x2 S = some X → vV Γ tMd_moveDown (mQ Γ 0 0 0 none X) S 0 0 83 [(0, .ref x0), (1, .int x1), (2, .int x2)] [] := by
  intro n
  induction n with
  | zero => intro x0 x1 x2 S h; rw [fMd_moveDown_83] at h; cases h
  | succ n ih =>
    intro x0 x1 x2 S h
    rw [fMd_moveDown_83] at h
    refine v_iload_n (pc := 83) (show decode (tC tMd_moveDown) 83 = .ok (.iload_n 2, 1) by decide +kernel) 2 rfl rfl ?_
    refine v_iconst (pc := 84) (v := 4) (show decode (tC tMd_moveDown) 84 = .ok (.iconst 4, 1) by decide +kernel) (by decide) ?_
    refine v_icmp_ge (pc := 85) 116 (show decode (tC tMd_moveDown) 85 = .ok (.if_icmp .ge 31, 3) by decide +kernel) (by decide) (fun c => ?_) (fun c => ?_)
    · replace h := ite_t c h
      refine v_aload_n (pc := 116) (show decode (tC tMd_moveDown) 116 = .ok (.aload_n 0, 1) by decide +kernel) 0 rfl rfl ?_
      obtain ⟨v1, e2, h⟩ := ob h
      refine v_getX (pc := 117) oF_Md_140 e2 (show decode (tC tMd_moveDown) 117 = .ok (.getfield 140, 3) by decide +kernel) ?_
      refine v_iload_n (pc := 120) (show decode (tC tMd_moveDown) 120 = .ok (.iload_n 1, 1) by decide +kernel) 1 rfl rfl ?_
      refine v_aload_n (pc := 121) (show decode (tC tMd_moveDown) 121 = .ok (.aload_n 0, 1) by decide +kernel) 0 rfl rfl ?_
      obtain ⟨v3, e4, h⟩ := ob h
      refine v_getX (pc := 122) oF_Md_140 e4 (show decode (tC tMd_moveDown) 122 = .ok (.getfield 140, 3) by decide +kernel) ?_
      refine v_iload_n (pc := 125) (show decode (tC tMd_moveDown) 125 = .ok (.iload_n 1, 1) by decide +kernel) 1 rfl rfl ?_
      refine v_iconst (pc := 126) (v := 1) (show decode (tC tMd_moveDown) 126 = .ok (.iconst 1, 1) by decide +kernel) (by decide) ?_
      refine v_iadd (pc := 127) (show decode (tC tMd_moveDown) 127 = .ok (.iadd, 1) by decide +kernel) ?_
      obtain ⟨v5, e6, h⟩ := ob h
      refine v_iald (pc := 128) e6 (show decode (tC tMd_moveDown) 128 = .ok (.iaload, 1) by decide +kernel) ?_
      obtain ⟨S7, e8, h⟩ := ob h
      refine v_iast (pc := 129) e8 (show decode (tC tMd_moveDown) 129 = .ok (.iastore, 1) by decide +kernel) ?_
      refine v_aload_n (pc := 130) (show decode (tC tMd_moveDown) 130 = .ok (.aload_n 0, 1) by decide +kernel) 0 rfl rfl ?_
      obtain ⟨v9, e10, h⟩ := ob h
      refine v_getX (pc := 131) oF_Md_143 e10 (show decode (tC tMd_moveDown) 131 = .ok (.getfield 143, 3) by decide +kernel) ?_
      refine v_iload_n (pc := 134) (show decode (tC tMd_moveDown) 134 = .ok (.iload_n 1, 1) by decide +kernel) 1 rfl rfl ?_
      refine v_aload_n (pc := 135) (show decode (tC tMd_moveDown) 135 = .ok (.aload_n 0, 1) by decide +kernel) 0 rfl rfl ?_
      obtain ⟨v11, e12, h⟩ := ob h
      refine v_getX (pc := 136) oF_Md_143 e12 (show decode (tC tMd_moveDown) 136 = .ok (.getfield 143, 3) by decide +kernel) ?_
      refine v_iload_n (pc := 139) (show decode (tC tMd_moveDown) 139 = .ok (.iload_n 1, 1) by decide +kernel) 1 rfl rfl ?_
      refine v_iconst (pc := 140) (v := 1) (show decode (tC tMd_moveDown) 140 = .ok (.iconst 1, 1) by decide +kernel) (by decide) ?_
      refine v_iadd (pc := 141) (show decode (tC tMd_moveDown) 141 = .ok (.iadd, 1) by decide +kernel) ?_
      obtain ⟨v13, e14, h⟩ := ob h
      refine v_iald (pc := 142) e14 (show decode (tC tMd_moveDown) 142 = .ok (.iaload, 1) by decide +kernel) ?_
      obtain ⟨S15, e16, h⟩ := ob h
      refine v_iast (pc := 143) e16 (show decode (tC tMd_moveDown) 143 = .ok (.iastore, 1) by decide +kernel) ?_
      refine v_aload_n (pc := 144) (show decode (tC tMd_moveDown) 144 = .ok (.aload_n 0, 1) by decide +kernel) 0 rfl rfl ?_
      obtain ⟨v17, e18, h⟩ := ob h
      refine v_getX (pc := 145) oF_Md_146 e18 (show decode (tC tMd_moveDown) 145 = .ok (.getfield 146, 3) by decide +kernel) ?_
      refine v_iload_n (pc := 148) (show decode (tC tMd_moveDown) 148 = .ok (.iload_n 1, 1) by decide +kernel) 1 rfl rfl ?_
      refine v_aload_n (pc := 149) (show decode (tC tMd_moveDown) 149 = .ok (.aload_n 0, 1) by decide +kernel) 0 rfl rfl ?_
      obtain ⟨v19, e20, h⟩ := ob h
      refine v_getX (pc := 150) oF_Md_146 e20 (show decode (tC tMd_moveDown) 150 = .ok (.getfield 146, 3) by decide +kernel) ?_
      refine v_iload_n (pc := 153) (show decode (tC tMd_moveDown) 153 = .ok (.iload_n 1, 1) by decide +kernel) 1 rfl rfl ?_
      refine v_iconst (pc := 154) (v := 1) (show decode (tC tMd_moveDown) 154 = .ok (.iconst 1, 1) by decide +kernel) (by decide) ?_
      refine v_iadd (pc := 155) (show decode (tC tMd_moveDown) 155 = .ok (.iadd, 1) by decide +kernel) ?_
      obtain ⟨v21, e22, h⟩ := ob h
      refine v_iald (pc := 156) e22 (show decode (tC tMd_moveDown) 156 = .ok (.iaload, 1) by decide +kernel) ?_
      obtain ⟨S23, e24, h⟩ := ob h
      refine v_iast (pc := 157) e24 (show decode (tC tMd_moveDown) 157 = .ok (.iastore, 1) by decide +kernel) ?_
      refine v_aload_n (pc := 158) (show decode (tC tMd_moveDown) 158 = .ok (.aload_n 0, 1) by decide +kernel) 0 rfl rfl ?_
      obtain ⟨v25, e26, h⟩ := ob h
      refine v_getX (pc := 159) oF_Md_149 e26 (show decode (tC tMd_moveDown) 159 = .ok (.getfield 149, 3) by decide +kernel) ?_
      refine v_iload_n (pc := 162) (show decode (tC tMd_moveDown) 162 = .ok (.iload_n 1, 1) by decide +kernel) 1 rfl rfl ?_
      refine v_aload_n (pc := 163) (show decode (tC tMd_moveDown) 163 = .ok (.aload_n 0, 1) by decide +kernel) 0 rfl rfl ?_
      obtain ⟨v27, e28, h⟩ := ob h
      refine v_getX (pc := 164) oF_Md_149 e28 (show decode (tC tMd_moveDown) 164 = .ok (.getfield 149, 3) by decide +kernel) ?_
      refine v_iload_n (pc := 167) (show decode (tC tMd_moveDown) 167 = .ok (.iload_n 1, 1) by decide +kernel) 1 rfl rfl ?_
      refine v_iconst (pc := 168) (v := 1) (show decode (tC tMd_moveDown) 168 = .ok (.iconst 1, 1) by decide +kernel) (by decide) ?_
      refine v_iadd (pc := 169) (show decode (tC tMd_moveDown) 169 = .ok (.iadd, 1) by decide +kernel) ?_
      obtain ⟨v29, e30, h⟩ := ob h
      refine v_iald (pc := 170) e30 (show decode (tC tMd_moveDown) 170 = .ok (.iaload, 1) by decide +kernel) ?_
      obtain ⟨S31, e32, h⟩ := ob h
      refine v_iast (pc := 171) e32 (show decode (tC tMd_moveDown) 171 = .ok (.iastore, 1) by decide +kernel) ?_
      obtain rfl := Option.some.inj h
      refine v_wide (ce2 := 0) (sl2 := 0) (by decide) (by decide) ?_
      exact v_vret (pc := 172) rfl (show decode (tC tMd_moveDown) 172 = .ok (.return_, 1) by decide +kernel)
    · replace h := ite_f c h
      refine v_aload_n (pc := 88) (show decode (tC tMd_moveDown) 88 = .ok (.aload_n 0, 1) by decide +kernel) 0 rfl rfl ?_
      obtain ⟨v33, e34, h⟩ := ob h
      refine v_getX (pc := 89) oF_Md_137 e34 (show decode (tC tMd_moveDown) 89 = .ok (.getfield 137, 3) by decide +kernel) ?_
      refine v_iconst (pc := 92) (v := 4) (show decode (tC tMd_moveDown) 92 = .ok (.iconst 4, 1) by decide +kernel) (by decide) ?_
      refine v_iload_n (pc := 93) (show decode (tC tMd_moveDown) 93 = .ok (.iload_n 1, 1) by decide +kernel) 1 rfl rfl ?_
      refine v_imul (pc := 94) (show decode (tC tMd_moveDown) 94 = .ok (.imul, 1) by decide +kernel) ?_
      refine v_iload_n (pc := 95) (show decode (tC tMd_moveDown) 95 = .ok (.iload_n 2, 1) by decide +kernel) 2 rfl rfl ?_
      refine v_iadd (pc := 96) (show decode (tC tMd_moveDown) 96 = .ok (.iadd, 1) by decide +kernel) ?_
      refine v_aload_n (pc := 97) (show decode (tC tMd_moveDown) 97 = .ok (.aload_n 0, 1) by decide +kernel) 0 rfl rfl ?_
      obtain ⟨v35, e36, h⟩ := ob h
      refine v_getX (pc := 98) oF_Md_137 e36 (show decode (tC tMd_moveDown) 98 = .ok (.getfield 137, 3) by decide +kernel) ?_
      refine v_iconst (pc := 101) (v := 4) (show decode (tC tMd_moveDown) 101 = .ok (.iconst 4, 1) by decide +kernel) (by decide) ?_
      refine v_iload_n (pc := 102) (show decode (tC tMd_moveDown) 102 = .ok (.iload_n 1, 1) by decide +kernel) 1 rfl rfl ?_
      refine v_imul (pc := 103) (show decode (tC tMd_moveDown) 103 = .ok (.imul, 1) by decide +kernel) ?_
      refine v_iconst (pc := 104) (v := 4) (show decode (tC tMd_moveDown) 104 = .ok (.iconst 4, 1) by decide +kernel) (by decide) ?_
      refine v_iadd (pc := 105) (show decode (tC tMd_moveDown) 105 = .ok (.iadd, 1) by decide +kernel) ?_
      refine v_iload_n (pc := 106) (show decode (tC tMd_moveDown) 106 = .ok (.iload_n 2, 1) by decide +kernel) 2 rfl rfl ?_
      refine v_iadd (pc := 107) (show decode (tC tMd_moveDown) 107 = .ok (.iadd, 1) by decide +kernel) ?_
      obtain ⟨v37, e38, h⟩ := ob h
      refine v_iald (pc := 108) e38 (show decode (tC tMd_moveDown) 108 = .ok (.iaload, 1) by decide +kernel) ?_
      obtain ⟨S39, e40, h⟩ := ob h
      refine v_iast (pc := 109) e40 (show decode (tC tMd_moveDown) 109 = .ok (.iastore, 1) by decide +kernel) ?_
      refine v_iinc (pc := 110) (j := 2) [(2, .int (x2 + 1)), (0, .ref x0), (1, .int x1)] (show decode (tC tMd_moveDown) 110 = .ok (.iinc 2 1, 3) by decide +kernel) rfl rfl (by decide) rfl ?_
      refine v_goto (pc := 113) 83 (show decode (tC tMd_moveDown) 113 = .ok (.goto (-30), 3) by decide +kernel) (by decide) ?_
      refine v_sub [(0, .ref x0), (1, .int x1), (2, .int (x2 + 1))] [1, 2, 0] rfl ?_
      exact ih x0 x1 (x2 + 1) S39 h
def fMd_moveDown_30  : Nat → Nat → Int32 → Int32 → Sx → Option (Sx)
  | 0, _, _, _, _ => none
  | n + 1, x0, x1, x2, S =>
    if (60 : Int32) ≤ x2 then
    ((gX S 12 60 x0).bind fun v1 =>
    (gX S 12 60 x0).bind fun v3 =>
    (aI S v3 (x1 + 1)).bind fun v5 =>
    (qI S v1 x1 v5).bind fun S7 =>
    fMd_moveDown_83  fuel x0 x1 0 S7)
    else
    ((gX S 12 59 x0).bind fun v9 =>
    (gX S 12 59 x0).bind fun v11 =>
    (aI S v11 (((60 * x1) + 60) + x2)).bind fun v13 =>
    (qI S v9 ((60 * x1) + x2) v13).bind fun S15 =>
    fMd_moveDown_30 n x0 x1 (x2 + 1) S15)
set_option maxRecDepth 100000 in
set_option maxHeartbeats 4000000 in
theorem wMd_moveDown_30 {Γ : vG} (hR : gR Γ = rMd_moveDown) (hl : (gl Γ).flags = pinnedFlags ++ [noTraceFlag]) {X : Sx}  : ∀ (n : Nat) (x0 : Nat) (x1 : Int32) (x2 : Int32) (S : Sx), fMd_moveDown_30  n x0 x1 x2 S = some X → vV Γ tMd_moveDown (mQ Γ 0 0 0 none X) S 0 0 30 [(0, .ref x0), (1, .int x1), (2, .int x2)] [] := by
  intro n
  induction n with
  | zero => intro x0 x1 x2 S h; rw [fMd_moveDown_30] at h; cases h
  | succ n ih =>
    intro x0 x1 x2 S h
    rw [fMd_moveDown_30] at h
    refine v_iload_n (pc := 30) (show decode (tC tMd_moveDown) 30 = .ok (.iload_n 2, 1) by decide +kernel) 2 rfl rfl ?_
    refine v_bipush (pc := 31) (v := 60) (show decode (tC tMd_moveDown) 31 = .ok (.bipush 60, 2) by decide +kernel) (by decide) ?_
    refine v_icmp_ge (pc := 33) 67 (show decode (tC tMd_moveDown) 33 = .ok (.if_icmp .ge 34, 3) by decide +kernel) (by decide) (fun c => ?_) (fun c => ?_)
    · replace h := ite_t c h
      refine v_aload_n (pc := 67) (show decode (tC tMd_moveDown) 67 = .ok (.aload_n 0, 1) by decide +kernel) 0 rfl rfl ?_
      obtain ⟨v1, e2, h⟩ := ob h
      refine v_getX (pc := 68) oF_Md_134 e2 (show decode (tC tMd_moveDown) 68 = .ok (.getfield 134, 3) by decide +kernel) ?_
      refine v_iload_n (pc := 71) (show decode (tC tMd_moveDown) 71 = .ok (.iload_n 1, 1) by decide +kernel) 1 rfl rfl ?_
      refine v_aload_n (pc := 72) (show decode (tC tMd_moveDown) 72 = .ok (.aload_n 0, 1) by decide +kernel) 0 rfl rfl ?_
      obtain ⟨v3, e4, h⟩ := ob h
      refine v_getX (pc := 73) oF_Md_134 e4 (show decode (tC tMd_moveDown) 73 = .ok (.getfield 134, 3) by decide +kernel) ?_
      refine v_iload_n (pc := 76) (show decode (tC tMd_moveDown) 76 = .ok (.iload_n 1, 1) by decide +kernel) 1 rfl rfl ?_
      refine v_iconst (pc := 77) (v := 1) (show decode (tC tMd_moveDown) 77 = .ok (.iconst 1, 1) by decide +kernel) (by decide) ?_
      refine v_iadd (pc := 78) (show decode (tC tMd_moveDown) 78 = .ok (.iadd, 1) by decide +kernel) ?_
      obtain ⟨v5, e6, h⟩ := ob h
      refine v_iald (pc := 79) e6 (show decode (tC tMd_moveDown) 79 = .ok (.iaload, 1) by decide +kernel) ?_
      obtain ⟨S7, e8, h⟩ := ob h
      refine v_iast (pc := 80) e8 (show decode (tC tMd_moveDown) 80 = .ok (.iastore, 1) by decide +kernel) ?_
      refine v_iconst (pc := 81) (v := 0) (show decode (tC tMd_moveDown) 81 = .ok (.iconst 0, 1) by decide +kernel) (by decide) ?_
      refine v_istore_n (pc := 82) [(2, .int 0), (0, .ref x0), (1, .int x1)] (show decode (tC tMd_moveDown) 82 = .ok (.istore_n 2, 1) by decide +kernel) rfl (by decide) rfl ?_
      refine v_sub [(0, .ref x0), (1, .int x1), (2, .int 0)] [1, 2, 0] rfl ?_
      exact wMd_moveDown_83 hR hl  fuel x0 x1 0 S7 h
    · replace h := ite_f c h
      refine v_aload_n (pc := 36) (show decode (tC tMd_moveDown) 36 = .ok (.aload_n 0, 1) by decide +kernel) 0 rfl rfl ?_
      obtain ⟨v9, e10, h⟩ := ob h
      refine v_getX (pc := 37) oF_Md_131 e10 (show decode (tC tMd_moveDown) 37 = .ok (.getfield 131, 3) by decide +kernel) ?_
      refine v_bipush (pc := 40) (v := 60) (show decode (tC tMd_moveDown) 40 = .ok (.bipush 60, 2) by decide +kernel) (by decide) ?_
      refine v_iload_n (pc := 42) (show decode (tC tMd_moveDown) 42 = .ok (.iload_n 1, 1) by decide +kernel) 1 rfl rfl ?_
      refine v_imul (pc := 43) (show decode (tC tMd_moveDown) 43 = .ok (.imul, 1) by decide +kernel) ?_
      refine v_iload_n (pc := 44) (show decode (tC tMd_moveDown) 44 = .ok (.iload_n 2, 1) by decide +kernel) 2 rfl rfl ?_
      refine v_iadd (pc := 45) (show decode (tC tMd_moveDown) 45 = .ok (.iadd, 1) by decide +kernel) ?_
      refine v_aload_n (pc := 46) (show decode (tC tMd_moveDown) 46 = .ok (.aload_n 0, 1) by decide +kernel) 0 rfl rfl ?_
      obtain ⟨v11, e12, h⟩ := ob h
      refine v_getX (pc := 47) oF_Md_131 e12 (show decode (tC tMd_moveDown) 47 = .ok (.getfield 131, 3) by decide +kernel) ?_
      refine v_bipush (pc := 50) (v := 60) (show decode (tC tMd_moveDown) 50 = .ok (.bipush 60, 2) by decide +kernel) (by decide) ?_
      refine v_iload_n (pc := 52) (show decode (tC tMd_moveDown) 52 = .ok (.iload_n 1, 1) by decide +kernel) 1 rfl rfl ?_
      refine v_imul (pc := 53) (show decode (tC tMd_moveDown) 53 = .ok (.imul, 1) by decide +kernel) ?_
      refine v_bipush (pc := 54) (v := 60) (show decode (tC tMd_moveDown) 54 = .ok (.bipush 60, 2) by decide +kernel) (by decide) ?_
      refine v_iadd (pc := 56) (show decode (tC tMd_moveDown) 56 = .ok (.iadd, 1) by decide +kernel) ?_
      refine v_iload_n (pc := 57) (show decode (tC tMd_moveDown) 57 = .ok (.iload_n 2, 1) by decide +kernel) 2 rfl rfl ?_
      refine v_iadd (pc := 58) (show decode (tC tMd_moveDown) 58 = .ok (.iadd, 1) by decide +kernel) ?_
      obtain ⟨v13, e14, h⟩ := ob h
      refine v_iald (pc := 59) e14 (show decode (tC tMd_moveDown) 59 = .ok (.iaload, 1) by decide +kernel) ?_
      obtain ⟨S15, e16, h⟩ := ob h
      refine v_iast (pc := 60) e16 (show decode (tC tMd_moveDown) 60 = .ok (.iastore, 1) by decide +kernel) ?_
      refine v_iinc (pc := 61) (j := 2) [(2, .int (x2 + 1)), (0, .ref x0), (1, .int x1)] (show decode (tC tMd_moveDown) 61 = .ok (.iinc 2 1, 3) by decide +kernel) rfl rfl (by decide) rfl ?_
      refine v_goto (pc := 64) 30 (show decode (tC tMd_moveDown) 64 = .ok (.goto (-34), 3) by decide +kernel) (by decide) ?_
      refine v_sub [(0, .ref x0), (1, .int x1), (2, .int (x2 + 1))] [1, 2, 0] rfl ?_
      exact ih x0 x1 (x2 + 1) S15 h
def fMd_moveDown (x0 : Nat) (x1 : Int32) (S : Sx) : Option (Sx) :=
    (gX S 12 57 x0).bind fun v1 =>
    (gX S 12 57 x0).bind fun v3 =>
    (aI S v3 (x1 + 1)).bind fun v5 =>
    (qI S v1 x1 v5).bind fun S7 =>
    (gX S7 12 58 x0).bind fun v9 =>
    (gX S7 12 58 x0).bind fun v11 =>
    (aI S7 v11 (x1 + 1)).bind fun v13 =>
    (qI S7 v9 x1 v13).bind fun S15 =>
    fMd_moveDown_30  fuel x0 x1 0 S15
set_option maxRecDepth 100000 in
set_option maxHeartbeats 4000000 in
theorem wMd_moveDown {Γ : vG} (hR : gR Γ = rMd_moveDown) (hl : (gl Γ).flags = pinnedFlags ++ [noTraceFlag]) (x0 : Nat) (x1 : Int32) (S : Sx) {X : Sx} (h : fMd_moveDown x0 x1 S = some X) : vV Γ tMd_moveDown (mQ Γ 0 0 0 none X) S 0 0 0 [(0, .ref x0), (1, .int x1)] [] := by
  unfold fMd_moveDown at h
  refine v_aload_n (pc := 0) (show decode (tC tMd_moveDown) 0 = .ok (.aload_n 0, 1) by decide +kernel) 0 rfl rfl ?_
  obtain ⟨v1, e2, h⟩ := ob h
  refine v_getX (pc := 1) oF_Md_125 e2 (show decode (tC tMd_moveDown) 1 = .ok (.getfield 125, 3) by decide +kernel) ?_
  refine v_iload_n (pc := 4) (show decode (tC tMd_moveDown) 4 = .ok (.iload_n 1, 1) by decide +kernel) 1 rfl rfl ?_
  refine v_aload_n (pc := 5) (show decode (tC tMd_moveDown) 5 = .ok (.aload_n 0, 1) by decide +kernel) 0 rfl rfl ?_
  obtain ⟨v3, e4, h⟩ := ob h
  refine v_getX (pc := 6) oF_Md_125 e4 (show decode (tC tMd_moveDown) 6 = .ok (.getfield 125, 3) by decide +kernel) ?_
  refine v_iload_n (pc := 9) (show decode (tC tMd_moveDown) 9 = .ok (.iload_n 1, 1) by decide +kernel) 1 rfl rfl ?_
  refine v_iconst (pc := 10) (v := 1) (show decode (tC tMd_moveDown) 10 = .ok (.iconst 1, 1) by decide +kernel) (by decide) ?_
  refine v_iadd (pc := 11) (show decode (tC tMd_moveDown) 11 = .ok (.iadd, 1) by decide +kernel) ?_
  obtain ⟨v5, e6, h⟩ := ob h
  refine v_iald (pc := 12) e6 (show decode (tC tMd_moveDown) 12 = .ok (.iaload, 1) by decide +kernel) ?_
  obtain ⟨S7, e8, h⟩ := ob h
  refine v_iast (pc := 13) e8 (show decode (tC tMd_moveDown) 13 = .ok (.iastore, 1) by decide +kernel) ?_
  refine v_aload_n (pc := 14) (show decode (tC tMd_moveDown) 14 = .ok (.aload_n 0, 1) by decide +kernel) 0 rfl rfl ?_
  obtain ⟨v9, e10, h⟩ := ob h
  refine v_getX (pc := 15) oF_Md_128 e10 (show decode (tC tMd_moveDown) 15 = .ok (.getfield 128, 3) by decide +kernel) ?_
  refine v_iload_n (pc := 18) (show decode (tC tMd_moveDown) 18 = .ok (.iload_n 1, 1) by decide +kernel) 1 rfl rfl ?_
  refine v_aload_n (pc := 19) (show decode (tC tMd_moveDown) 19 = .ok (.aload_n 0, 1) by decide +kernel) 0 rfl rfl ?_
  obtain ⟨v11, e12, h⟩ := ob h
  refine v_getX (pc := 20) oF_Md_128 e12 (show decode (tC tMd_moveDown) 20 = .ok (.getfield 128, 3) by decide +kernel) ?_
  refine v_iload_n (pc := 23) (show decode (tC tMd_moveDown) 23 = .ok (.iload_n 1, 1) by decide +kernel) 1 rfl rfl ?_
  refine v_iconst (pc := 24) (v := 1) (show decode (tC tMd_moveDown) 24 = .ok (.iconst 1, 1) by decide +kernel) (by decide) ?_
  refine v_iadd (pc := 25) (show decode (tC tMd_moveDown) 25 = .ok (.iadd, 1) by decide +kernel) ?_
  obtain ⟨v13, e14, h⟩ := ob h
  refine v_iald (pc := 26) e14 (show decode (tC tMd_moveDown) 26 = .ok (.iaload, 1) by decide +kernel) ?_
  obtain ⟨S15, e16, h⟩ := ob h
  refine v_iast (pc := 27) e16 (show decode (tC tMd_moveDown) 27 = .ok (.iastore, 1) by decide +kernel) ?_
  refine v_iconst (pc := 28) (v := 0) (show decode (tC tMd_moveDown) 28 = .ok (.iconst 0, 1) by decide +kernel) (by decide) ?_
  refine v_istore_n (pc := 29) [(2, .int 0), (0, .ref x0), (1, .int x1)] (show decode (tC tMd_moveDown) 29 = .ok (.istore_n 2, 1) by decide +kernel) rfl (by decide) rfl ?_
  refine v_sub [(0, .ref x0), (1, .int x1), (2, .int 0)] [1, 2, 0] rfl ?_
  exact wMd_moveDown_30 hR hl  fuel x0 x1 0 S15 h
theorem cMd_moveDown {l : Launch} (hl : l.flags = pinnedFlags ++ [noTraceFlag]) {D : va_G} {dA : Nat → ClassId} {B : Nat} {x0 : Nat} {x1 : Int32} {S : Sx} {X : Sx} (h : fMd_moveDown x0 x1 S = some X) : Mx l yMd_moveDown tMd_moveDown rMd_moveDown 0 0 D dA B S [.ref x0, .int x1] 0 none X :=
  mx_of hl (by decide) rfl rfl (Nat.le_of_ble_eq_true rfl) (fun Γ e1 e2 e3 e4 e5 => by subst e1; subst e3; subst e4; subst e5; exact wMd_moveDown e2 hl x0 x1 S h)
/-! MatchPipeModel.putBit(III)V -/
def yMd_putBit : MethodName := ⟨"MatchPipeModel", "putBit", "(III)V"⟩
def tMd_putBit : tM := (prog_14_method_51_code, "MatchPipeModel", 5, "putBit", none, [])
def rMd_putBit : Room := { frames := 0, cells := 0, slots := 0, locals := 0 }
theorem kMd_putBit : cOf yMd_putBit tMd_putBit ∈ gT := gT_in 1625 (by decide +kernel) rfl
theorem iMd_putBit : Cond.initialized yMd_putBit.cls ∈ gT := gT_in 68 (by decide +kernel) rfl
theorem mMd_putBit : okM yMd_putBit 3 := ⟨by decide, by decide, by unfold nPar; decide +kernel⟩
theorem nMd_putBit : Cond.instanceMethod yMd_putBit ∈ gT := gT_in 1624 (by decide +kernel) rfl
theorem lMd_putBit : Cond.selects "MatchPipeModel" yMd_putBit yMd_putBit ∈ gT := gT_in 51 (by decide +kernel) rfl
def fMd_putBit (x0 : Nat) (x1 : Int32) (x2 : Int32) (x3 : Int32) (S : Sx) : Option (Sx) :=
    (gX S 12 70 x0).bind fun v2 =>
    (gX S 12 70 x0).bind fun v4 =>
    (aI S v4 ((60 * x1) + (x2 / 8))).bind fun v6 =>
    (qI S v2 ((60 * x1) + (x2 / 8)) (v6 ||| (x3 <<< ((7 - (x2 - x2 / 8 * 8)) &&& 31)))).bind fun S9 =>
    some S9
set_option maxRecDepth 100000 in
set_option maxHeartbeats 4000000 in
theorem wMd_putBit {Γ : vG} (hR : gR Γ = rMd_putBit) (hl : (gl Γ).flags = pinnedFlags ++ [noTraceFlag]) (x0 : Nat) (x1 : Int32) (x2 : Int32) (x3 : Int32) (S : Sx) {X : Sx} (h : fMd_putBit x0 x1 x2 x3 S = some X) : vV Γ tMd_putBit (mQ Γ 0 0 0 none X) S 0 0 0 [(0, .ref x0), (1, .int x1), (2, .int x2), (3, .int x3)] [] := by
  unfold fMd_putBit at h
  refine v_bipush (pc := 0) (v := 60) (show decode (tC tMd_putBit) 0 = .ok (.bipush 60, 2) by decide +kernel) (by decide) ?_
  refine v_iload_n (pc := 2) (show decode (tC tMd_putBit) 2 = .ok (.iload_n 1, 1) by decide +kernel) 1 rfl rfl ?_
  refine v_imul (pc := 3) (show decode (tC tMd_putBit) 3 = .ok (.imul, 1) by decide +kernel) ?_
  refine v_iload_n (pc := 4) (show decode (tC tMd_putBit) 4 = .ok (.iload_n 2, 1) by decide +kernel) 2 rfl rfl ?_
  refine v_bipush (pc := 5) (v := 8) (show decode (tC tMd_putBit) 5 = .ok (.bipush 8, 2) by decide +kernel) (by decide) ?_
  refine v_idiv (pc := 7) (show decode (tC tMd_putBit) 7 = .ok (.idiv, 1) by decide +kernel) (by decide) ?_
  refine v_iadd (pc := 8) (show decode (tC tMd_putBit) 8 = .ok (.iadd, 1) by decide +kernel) ?_
  refine v_istore (pc := 9) [(4, .int ((60 * x1) + (x2 / 8))), (0, .ref x0), (1, .int x1), (2, .int x2), (3, .int x3)] (show decode (tC tMd_putBit) 9 = .ok (.istore 4, 2) by decide +kernel) (by decide) rfl ?_
  refine v_aload_n (pc := 11) (show decode (tC tMd_putBit) 11 = .ok (.aload_n 0, 1) by decide +kernel) 1 rfl rfl ?_
  obtain ⟨v2, e3, h⟩ := ob h
  refine v_getX (pc := 12) oF_Md_164 e3 (show decode (tC tMd_putBit) 12 = .ok (.getfield 164, 3) by decide +kernel) ?_
  refine v_iload (pc := 15) (show decode (tC tMd_putBit) 15 = .ok (.iload 4, 2) by decide +kernel) 0 rfl ?_
  refine v_aload_n (pc := 17) (show decode (tC tMd_putBit) 17 = .ok (.aload_n 0, 1) by decide +kernel) 1 rfl rfl ?_
  obtain ⟨v4, e5, h⟩ := ob h
  refine v_getX (pc := 18) oF_Md_164 e5 (show decode (tC tMd_putBit) 18 = .ok (.getfield 164, 3) by decide +kernel) ?_
  refine v_iload (pc := 21) (show decode (tC tMd_putBit) 21 = .ok (.iload 4, 2) by decide +kernel) 0 rfl ?_
  obtain ⟨v6, e7, h⟩ := ob h
  refine v_iald (pc := 23) e7 (show decode (tC tMd_putBit) 23 = .ok (.iaload, 1) by decide +kernel) ?_
  refine v_iload_n (pc := 24) (show decode (tC tMd_putBit) 24 = .ok (.iload_n 3, 1) by decide +kernel) 4 rfl rfl ?_
  refine v_bipush (pc := 25) (v := 7) (show decode (tC tMd_putBit) 25 = .ok (.bipush 7, 2) by decide +kernel) (by decide) ?_
  refine v_iload_n (pc := 27) (show decode (tC tMd_putBit) 27 = .ok (.iload_n 2, 1) by decide +kernel) 3 rfl rfl ?_
  refine v_bipush (pc := 28) (v := 8) (show decode (tC tMd_putBit) 28 = .ok (.bipush 8, 2) by decide +kernel) (by decide) ?_
  refine v_irem (pc := 30) (show decode (tC tMd_putBit) 30 = .ok (.irem, 1) by decide +kernel) (by decide) ?_
  refine v_isub (pc := 31) (show decode (tC tMd_putBit) 31 = .ok (.isub, 1) by decide +kernel) ?_
  refine v_ishl (pc := 32) (show decode (tC tMd_putBit) 32 = .ok (.ishl, 1) by decide +kernel) ?_
  refine v_ior (pc := 33) (show decode (tC tMd_putBit) 33 = .ok (.ior, 1) by decide +kernel) ?_
  obtain ⟨S9, e10, h⟩ := ob h
  refine v_iast (pc := 34) e10 (show decode (tC tMd_putBit) 34 = .ok (.iastore, 1) by decide +kernel) ?_
  obtain rfl := Option.some.inj h
  refine v_wide (ce2 := 0) (sl2 := 0) (by decide) (by decide) ?_
  exact v_vret (pc := 35) rfl (show decode (tC tMd_putBit) 35 = .ok (.return_, 1) by decide +kernel)
theorem cMd_putBit {l : Launch} (hl : l.flags = pinnedFlags ++ [noTraceFlag]) {D : va_G} {dA : Nat → ClassId} {B : Nat} {x0 : Nat} {x1 : Int32} {x2 : Int32} {x3 : Int32} {S : Sx} {X : Sx} (h : fMd_putBit x0 x1 x2 x3 S = some X) : Mx l yMd_putBit tMd_putBit rMd_putBit 0 0 D dA B S [.ref x0, .int x1, .int x2, .int x3] 0 none X :=
  mx_of hl (by decide) rfl rfl (Nat.le_of_ble_eq_true rfl) (fun Γ e1 e2 e3 e4 e5 => by subst e1; subst e3; subst e4; subst e5; exact wMd_putBit e2 hl x0 x1 x2 x3 S h)
/-! MatchPipeModel.writePacket(I)V -/
def yMd_writePacket : MethodName := ⟨"MatchPipeModel", "writePacket", "(I)V"⟩
def tMd_writePacket : tM := (prog_14_method_50_code, "MatchPipeModel", 6, "writePacket", none, [])
def rMd_writePacket : Room := { frames := 1, cells := 0, slots := 0, locals := 24 }
theorem kMd_writePacket : cOf yMd_writePacket tMd_writePacket ∈ gT := gT_in 1621 (by decide +kernel) rfl
theorem iMd_writePacket : Cond.initialized yMd_writePacket.cls ∈ gT := gT_in 68 (by decide +kernel) rfl
theorem mMd_writePacket : okM yMd_writePacket 1 := ⟨by decide, by decide, by unfold nPar; decide +kernel⟩
theorem nMd_writePacket : Cond.instanceMethod yMd_writePacket ∈ gT := gT_in 1620 (by decide +kernel) rfl
theorem lMd_writePacket : Cond.selects "MatchPipeModel" yMd_writePacket yMd_writePacket ∈ gT := gT_in 50 (by decide +kernel) rfl
def fMd_writePacket_95  : Nat → Nat → Int32 → Int32 → Sx → Option (Sx)
  | 0, _, _, _, _ => none
  | n + 1, x0, x1, x2, S =>
    (gX S 12 58 x0).bind fun v1 =>
    (aI S v1 0).bind fun v3 =>
    if ((8 : Int32) * v3) ≤ x2 then
    ((gX S 12 68 x0).bind fun v5 =>
    (gI S 12 75 x0).bind fun v7 =>
    (qI S v5 x1 v7).bind fun S9 =>
    (gX S9 12 69 x0).bind fun v11 =>
    (gX S9 12 58 x0).bind fun v13 =>
    (aI S9 v13 0).bind fun v15 =>
    (qI S9 v11 x1 v15).bind fun S17 =>
    some S17)
    else
    ((gX S 12 59 x0).bind fun v19 =>
    (aI S v19 (x2 / 8)).bind fun v22 =>
    (ckd S x0 12).bind fun _ =>
    (fMd_putBit x0 x1 x2 ((v22 >>> ((7 - (x2 - x2 / 8 * 8)) &&& 31)) &&& 1) S).bind fun S27 =>
    fMd_writePacket_95 n x0 x1 (x2 + 1) S27)
set_option maxRecDepth 100000 in
set_option maxHeartbeats 4000000 in
theorem wMd_writePacket_95 {Γ : vG} (hR : gR Γ = rMd_writePacket) (hl : (gl Γ).flags = pinnedFlags ++ [noTraceFlag]) {X : Sx}  : ∀ (n : Nat) (x0 : Nat) (x1 : Int32) (x2 : Int32) (S : Sx), fMd_writePacket_95  n x0 x1 x2 S = some X → vV Γ tMd_writePacket (mQ Γ 0 0 0 none X) S 0 0 95 [(0, .ref x0), (1, .int x1), (2, .int x2)] [] := by
  intro n
  induction n with
  | zero => intro x0 x1 x2 S h; rw [fMd_writePacket_95] at h; cases h
  | succ n ih =>
    intro x0 x1 x2 S h
    rw [fMd_writePacket_95] at h
    refine v_iload_n (pc := 95) (show decode (tC tMd_writePacket) 95 = .ok (.iload_n 2, 1) by decide +kernel) 2 rfl rfl ?_
    refine v_bipush (pc := 96) (v := 8) (show decode (tC tMd_writePacket) 96 = .ok (.bipush 8, 2) by decide +kernel) (by decide) ?_
    refine v_aload_n (pc := 98) (show decode (tC tMd_writePacket) 98 = .ok (.aload_n 0, 1) by decide +kernel) 0 rfl rfl ?_
    obtain ⟨v1, e2, h⟩ := ob h
    refine v_getX (pc := 99) oF_Md_128 e2 (show decode (tC tMd_writePacket) 99 = .ok (.getfield 128, 3) by decide +kernel) ?_
    refine v_iconst (pc := 102) (v := 0) (show decode (tC tMd_writePacket) 102 = .ok (.iconst 0, 1) by decide +kernel) (by decide) ?_
    obtain ⟨v3, e4, h⟩ := ob h
    refine v_iald (pc := 103) e4 (show decode (tC tMd_writePacket) 103 = .ok (.iaload, 1) by decide +kernel) ?_
    refine v_imul (pc := 104) (show decode (tC tMd_writePacket) 104 = .ok (.imul, 1) by decide +kernel) ?_
    refine v_icmp_ge (pc := 105) 139 (show decode (tC tMd_writePacket) 105 = .ok (.if_icmp .ge 34, 3) by decide +kernel) (by decide) (fun c => ?_) (fun c => ?_)
    · replace h := ite_t c h
      refine v_aload_n (pc := 139) (show decode (tC tMd_writePacket) 139 = .ok (.aload_n 0, 1) by decide +kernel) 0 rfl rfl ?_
      obtain ⟨v5, e6, h⟩ := ob h
      refine v_getX (pc := 140) oF_Md_158 e6 (show decode (tC tMd_writePacket) 140 = .ok (.getfield 158, 3) by decide +kernel) ?_
      refine v_iload_n (pc := 143) (show decode (tC tMd_writePacket) 143 = .ok (.iload_n 1, 1) by decide +kernel) 1 rfl rfl ?_
      refine v_aload_n (pc := 144) (show decode (tC tMd_writePacket) 144 = .ok (.aload_n 0, 1) by decide +kernel) 0 rfl rfl ?_
      obtain ⟨v7, e8, h⟩ := ob h
      refine v_getI (pc := 145) oF_Md_304 (by decide) e8 (show decode (tC tMd_writePacket) 145 = .ok (.getfield 304, 3) by decide +kernel) ?_
      obtain ⟨S9, e10, h⟩ := ob h
      refine v_iast (pc := 148) e10 (show decode (tC tMd_writePacket) 148 = .ok (.iastore, 1) by decide +kernel) ?_
      refine v_aload_n (pc := 149) (show decode (tC tMd_writePacket) 149 = .ok (.aload_n 0, 1) by decide +kernel) 0 rfl rfl ?_
      obtain ⟨v11, e12, h⟩ := ob h
      refine v_getX (pc := 150) oF_Md_161 e12 (show decode (tC tMd_writePacket) 150 = .ok (.getfield 161, 3) by decide +kernel) ?_
      refine v_iload_n (pc := 153) (show decode (tC tMd_writePacket) 153 = .ok (.iload_n 1, 1) by decide +kernel) 1 rfl rfl ?_
      refine v_aload_n (pc := 154) (show decode (tC tMd_writePacket) 154 = .ok (.aload_n 0, 1) by decide +kernel) 0 rfl rfl ?_
      obtain ⟨v13, e14, h⟩ := ob h
      refine v_getX (pc := 155) oF_Md_128 e14 (show decode (tC tMd_writePacket) 155 = .ok (.getfield 128, 3) by decide +kernel) ?_
      refine v_iconst (pc := 158) (v := 0) (show decode (tC tMd_writePacket) 158 = .ok (.iconst 0, 1) by decide +kernel) (by decide) ?_
      obtain ⟨v15, e16, h⟩ := ob h
      refine v_iald (pc := 159) e16 (show decode (tC tMd_writePacket) 159 = .ok (.iaload, 1) by decide +kernel) ?_
      obtain ⟨S17, e18, h⟩ := ob h
      refine v_iast (pc := 160) e18 (show decode (tC tMd_writePacket) 160 = .ok (.iastore, 1) by decide +kernel) ?_
      obtain rfl := Option.some.inj h
      refine v_wide (ce2 := 0) (sl2 := 0) (by decide) (by decide) ?_
      exact v_vret (pc := 161) rfl (show decode (tC tMd_writePacket) 161 = .ok (.return_, 1) by decide +kernel)
    · replace h := ite_f c h
      refine v_aload_n (pc := 108) (show decode (tC tMd_writePacket) 108 = .ok (.aload_n 0, 1) by decide +kernel) 0 rfl rfl ?_
      refine v_iload_n (pc := 109) (show decode (tC tMd_writePacket) 109 = .ok (.iload_n 1, 1) by decide +kernel) 1 rfl rfl ?_
      refine v_iload_n (pc := 110) (show decode (tC tMd_writePacket) 110 = .ok (.iload_n 2, 1) by decide +kernel) 2 rfl rfl ?_
      refine v_aload_n (pc := 111) (show decode (tC tMd_writePacket) 111 = .ok (.aload_n 0, 1) by decide +kernel) 0 rfl rfl ?_
      obtain ⟨v19, e20, h⟩ := ob h
      refine v_getX (pc := 112) oF_Md_131 e20 (show decode (tC tMd_writePacket) 112 = .ok (.getfield 131, 3) by decide +kernel) ?_
      refine v_iload_n (pc := 115) (show decode (tC tMd_writePacket) 115 = .ok (.iload_n 2, 1) by decide +kernel) 2 rfl rfl ?_
      refine v_bipush (pc := 116) (v := 8) (show decode (tC tMd_writePacket) 116 = .ok (.bipush 8, 2) by decide +kernel) (by decide) ?_
      refine v_idiv (pc := 118) (show decode (tC tMd_writePacket) 118 = .ok (.idiv, 1) by decide +kernel) (by decide) ?_
      obtain ⟨v22, e23, h⟩ := ob h
      refine v_iald (pc := 119) e23 (show decode (tC tMd_writePacket) 119 = .ok (.iaload, 1) by decide +kernel) ?_
      refine v_bipush (pc := 120) (v := 7) (show decode (tC tMd_writePacket) 120 = .ok (.bipush 7, 2) by decide +kernel) (by decide) ?_
      refine v_iload_n (pc := 122) (show decode (tC tMd_writePacket) 122 = .ok (.iload_n 2, 1) by decide +kernel) 2 rfl rfl ?_
      refine v_bipush (pc := 123) (v := 8) (show decode (tC tMd_writePacket) 123 = .ok (.bipush 8, 2) by decide +kernel) (by decide) ?_
      refine v_irem (pc := 125) (show decode (tC tMd_writePacket) 125 = .ok (.irem, 1) by decide +kernel) (by decide) ?_
      refine v_isub (pc := 126) (show decode (tC tMd_writePacket) 126 = .ok (.isub, 1) by decide +kernel) ?_
      refine v_ishr (pc := 127) (show decode (tC tMd_writePacket) 127 = .ok (.ishr, 1) by decide +kernel) ?_
      refine v_iconst (pc := 128) (v := 1) (show decode (tC tMd_writePacket) 128 = .ok (.iconst 1, 1) by decide +kernel) (by decide) ?_
      refine v_iand (pc := 129) (show decode (tC tMd_writePacket) 129 = .ok (.iand, 1) by decide +kernel) ?_
      obtain ⟨_, e26, h⟩ := ob h
      obtain ⟨S27, e25, h⟩ := ob h
      refine v_call (pc := 130) (v := none) (y := yMd_putBit) (θ' := tMd_putBit) (rm := rMd_putBit) (av := [.ref x0, .int x1, .int x2, .int ((v22 >>> ((7 - (x2 - x2 / 8 * 8)) &&& 31)) &&& 1)]) (st := []) (cMd_putBit (l := gl Γ) hl e25) kMd_putBit iMd_putBit (iv_virt (y := yMd_putBit) (θ' := tMd_putBit) (kd := 12) (As := [.int x1, .int x2, .int ((v22 >>> ((7 - (x2 - x2 / 8 * 8)) &&& 31)) &&& 1)]) rfl (ckd_of e26) kMd_putBit (gT_in 1622 (by decide +kernel) rfl) nMd_putBit lMd_putBit mMd_putBit rfl (show decode (tC tMd_writePacket) 130 = .ok (.invokevirtual 352, 3) by decide +kernel)) ⟨by rw [hR]; decide, by rw [hR]; decide, by rw [hR]; decide, by rw [hR]; decide⟩ (Nat.le_of_ble_eq_true rfl) ?_
      refine v_iinc (pc := 133) (j := 2) [(2, .int (x2 + 1)), (0, .ref x0), (1, .int x1)] (show decode (tC tMd_writePacket) 133 = .ok (.iinc 2 1, 3) by decide +kernel) rfl rfl (by decide) rfl ?_
      refine v_goto (pc := 136) 95 (show decode (tC tMd_writePacket) 136 = .ok (.goto (-41), 3) by decide +kernel) (by decide) ?_
      refine v_sub [(0, .ref x0), (1, .int x1), (2, .int (x2 + 1))] [1, 2, 0] rfl ?_
      exact ih x0 x1 (x2 + 1) S27 h
def fMd_writePacket_57 (k30 : Nat → Int32 → Int32 → Int32 → Sx → Option (Sx)) : Nat → Nat → Int32 → Int32 → Int32 → Int32 → Int32 → Sx → Option (Sx)
  | 0, _, _, _, _, _, _, _ => none
  | n + 1, x0, x1, x2, x3, x4, x5, S =>
    if x5 < 0 then
    (k30 x0 x1 x2 (x3 + 1) S)
    else
    ((gX S 12 77 x0).bind fun v1 =>
    (aI S v1 x4).bind fun v3 =>
    (ckd S x0 12).bind fun _ =>
    (fMd_putBit x0 x1 x2 ((v3 >>> (x5 &&& 31)) &&& 1) S).bind fun S7 =>
    fMd_writePacket_57 k30 n x0 x1 (x2 + 1) x3 x4 (x5 + (-1)) S7)
set_option maxRecDepth 100000 in
set_option maxHeartbeats 4000000 in
theorem wMd_writePacket_57 {Γ : vG} (hR : gR Γ = rMd_writePacket) (hl : (gl Γ).flags = pinnedFlags ++ [noTraceFlag]) {X : Sx} {k30 : Nat → Int32 → Int32 → Int32 → Sx → Option (Sx)} (hk30 : ∀ (x0 : Nat) (x1 : Int32) (x2 : Int32) (x3 : Int32) (S : Sx), k30 x0 x1 x2 x3 S = some X → vV Γ tMd_writePacket (mQ Γ 0 0 0 none X) S 0 0 30 [(0, .ref x0), (1, .int x1), (2, .int x2), (3, .int x3)] []) : ∀ (n : Nat) (x0 : Nat) (x1 : Int32) (x2 : Int32) (x3 : Int32) (x4 : Int32) (x5 : Int32) (S : Sx), fMd_writePacket_57 k30 n x0 x1 x2 x3 x4 x5 S = some X → vV Γ tMd_writePacket (mQ Γ 0 0 0 none X) S 0 0 57 [(0, .ref x0), (1, .int x1), (2, .int x2), (3, .int x3), (4, .int x4), (5, .int x5)] [] := by
  intro n
  induction n with
  | zero => intro x0 x1 x2 x3 x4 x5 S h; rw [fMd_writePacket_57] at h; cases h
  | succ n ih =>
    intro x0 x1 x2 x3 x4 x5 S h
    rw [fMd_writePacket_57] at h
    refine v_iload (pc := 57) (show decode (tC tMd_writePacket) 57 = .ok (.iload 5, 2) by decide +kernel) 5 rfl ?_
    refine v_if_lt (pc := 59) 89 (show decode (tC tMd_writePacket) 59 = .ok (.ifCond .lt 30, 3) by decide +kernel) (by decide) (fun c => ?_) (fun c => ?_)
    · replace h := ite_t c h
      refine v_iinc (pc := 89) (j := 3) [(3, .int (x3 + 1)), (0, .ref x0), (1, .int x1), (2, .int x2), (4, .int x4), (5, .int x5)] (show decode (tC tMd_writePacket) 89 = .ok (.iinc 3 1, 3) by decide +kernel) rfl rfl (by decide) rfl ?_
      refine v_goto (pc := 92) 30 (show decode (tC tMd_writePacket) 92 = .ok (.goto (-62), 3) by decide +kernel) (by decide) ?_
      refine v_sub [(0, .ref x0), (1, .int x1), (2, .int x2), (3, .int (x3 + 1))] [1, 2, 3, 0] rfl ?_
      exact hk30 x0 x1 x2 (x3 + 1) S h
    · replace h := ite_f c h
      refine v_aload_n (pc := 62) (show decode (tC tMd_writePacket) 62 = .ok (.aload_n 0, 1) by decide +kernel) 0 rfl rfl ?_
      refine v_iload_n (pc := 63) (show decode (tC tMd_writePacket) 63 = .ok (.iload_n 1, 1) by decide +kernel) 1 rfl rfl ?_
      refine v_iload_n (pc := 64) (show decode (tC tMd_writePacket) 64 = .ok (.iload_n 2, 1) by decide +kernel) 2 rfl rfl ?_
      refine v_aload_n (pc := 65) (show decode (tC tMd_writePacket) 65 = .ok (.aload_n 0, 1) by decide +kernel) 0 rfl rfl ?_
      obtain ⟨v1, e2, h⟩ := ob h
      refine v_getX (pc := 66) oF_Md_174 e2 (show decode (tC tMd_writePacket) 66 = .ok (.getfield 174, 3) by decide +kernel) ?_
      refine v_iload (pc := 69) (show decode (tC tMd_writePacket) 69 = .ok (.iload 4, 2) by decide +kernel) 4 rfl ?_
      obtain ⟨v3, e4, h⟩ := ob h
      refine v_iald (pc := 71) e4 (show decode (tC tMd_writePacket) 71 = .ok (.iaload, 1) by decide +kernel) ?_
      refine v_iload (pc := 72) (show decode (tC tMd_writePacket) 72 = .ok (.iload 5, 2) by decide +kernel) 5 rfl ?_
      refine v_ishr (pc := 74) (show decode (tC tMd_writePacket) 74 = .ok (.ishr, 1) by decide +kernel) ?_
      refine v_iconst (pc := 75) (v := 1) (show decode (tC tMd_writePacket) 75 = .ok (.iconst 1, 1) by decide +kernel) (by decide) ?_
      refine v_iand (pc := 76) (show decode (tC tMd_writePacket) 76 = .ok (.iand, 1) by decide +kernel) ?_
      obtain ⟨_, e6, h⟩ := ob h
      obtain ⟨S7, e5, h⟩ := ob h
      refine v_call (pc := 77) (v := none) (y := yMd_putBit) (θ' := tMd_putBit) (rm := rMd_putBit) (av := [.ref x0, .int x1, .int x2, .int ((v3 >>> (x5 &&& 31)) &&& 1)]) (st := []) (cMd_putBit (l := gl Γ) hl e5) kMd_putBit iMd_putBit (iv_virt (y := yMd_putBit) (θ' := tMd_putBit) (kd := 12) (As := [.int x1, .int x2, .int ((v3 >>> (x5 &&& 31)) &&& 1)]) rfl (ckd_of e6) kMd_putBit (gT_in 1622 (by decide +kernel) rfl) nMd_putBit lMd_putBit mMd_putBit rfl (show decode (tC tMd_writePacket) 77 = .ok (.invokevirtual 352, 3) by decide +kernel)) ⟨by rw [hR]; decide, by rw [hR]; decide, by rw [hR]; decide, by rw [hR]; decide⟩ (Nat.le_of_ble_eq_true rfl) ?_
      refine v_iinc (pc := 80) (j := 2) [(2, .int (x2 + 1)), (0, .ref x0), (1, .int x1), (3, .int x3), (4, .int x4), (5, .int x5)] (show decode (tC tMd_writePacket) 80 = .ok (.iinc 2 1, 3) by decide +kernel) rfl rfl (by decide) rfl ?_
      refine v_iinc (pc := 83) (j := 5) [(5, .int (x5 + (-1))), (2, .int (x2 + 1)), (0, .ref x0), (1, .int x1), (3, .int x3), (4, .int x4)] (show decode (tC tMd_writePacket) 83 = .ok (.iinc 5 (-1), 3) by decide +kernel) rfl rfl (by decide) rfl ?_
      refine v_goto (pc := 86) 57 (show decode (tC tMd_writePacket) 86 = .ok (.goto (-29), 3) by decide +kernel) (by decide) ?_
      refine v_sub [(0, .ref x0), (1, .int x1), (2, .int (x2 + 1)), (3, .int x3), (4, .int x4), (5, .int (x5 + (-1)))] [2, 3, 1, 4, 5, 0] rfl ?_
      exact ih x0 x1 (x2 + 1) x3 x4 (x5 + (-1)) S7 h
def fMd_writePacket_30  : Nat → Nat → Int32 → Int32 → Int32 → Sx → Option (Sx)
  | 0, _, _, _, _, _ => none
  | n + 1, x0, x1, x2, x3, S =>
    (gI S 12 73 x0).bind fun v1 =>
    if v1 ≤ x3 then
    (fMd_writePacket_95  fuel x0 x1 x2 S)
    else
    ((gX S 12 78 x0).bind fun v3 =>
    (aI S v3 x3).bind fun v5 =>
    (gX S 12 8 x0).bind fun v7 =>
    (aI S v7 v5).bind fun v9 =>
    fMd_writePacket_57 (fun y0 y1 y2 y3 T => fMd_writePacket_30 n y0 y1 y2 y3 T) fuel x0 x1 x2 x3 v5 (v9 - 1) S)
set_option maxRecDepth 100000 in
set_option maxHeartbeats 4000000 in
theorem wMd_writePacket_30 {Γ : vG} (hR : gR Γ = rMd_writePacket) (hl : (gl Γ).flags = pinnedFlags ++ [noTraceFlag]) {X : Sx}  : ∀ (n : Nat) (x0 : Nat) (x1 : Int32) (x2 : Int32) (x3 : Int32) (S : Sx), fMd_writePacket_30  n x0 x1 x2 x3 S = some X → vV Γ tMd_writePacket (mQ Γ 0 0 0 none X) S 0 0 30 [(0, .ref x0), (1, .int x1), (2, .int x2), (3, .int x3)] [] := by
  intro n
  induction n with
  | zero => intro x0 x1 x2 x3 S h; rw [fMd_writePacket_30] at h; cases h
  | succ n ih =>
    intro x0 x1 x2 x3 S h
    rw [fMd_writePacket_30] at h
    refine v_iload_n (pc := 30) (show decode (tC tMd_writePacket) 30 = .ok (.iload_n 3, 1) by decide +kernel) 3 rfl rfl ?_
    refine v_aload_n (pc := 31) (show decode (tC tMd_writePacket) 31 = .ok (.aload_n 0, 1) by decide +kernel) 0 rfl rfl ?_
    obtain ⟨v1, e2, h⟩ := ob h
    refine v_getI (pc := 32) oF_Md_301 (by decide) e2 (show decode (tC tMd_writePacket) 32 = .ok (.getfield 301, 3) by decide +kernel) ?_
    refine v_icmp_ge (pc := 35) 95 (show decode (tC tMd_writePacket) 35 = .ok (.if_icmp .ge 60, 3) by decide +kernel) (by decide) (fun c => ?_) (fun c => ?_)
    · replace h := ite_t c h
      refine v_sub [(0, .ref x0), (1, .int x1), (2, .int x2)] [0, 1, 2] rfl ?_
      exact wMd_writePacket_95 hR hl  fuel x0 x1 x2 S h
    · replace h := ite_f c h
      refine v_aload_n (pc := 38) (show decode (tC tMd_writePacket) 38 = .ok (.aload_n 0, 1) by decide +kernel) 0 rfl rfl ?_
      obtain ⟨v3, e4, h⟩ := ob h
      refine v_getX (pc := 39) oF_Md_177 e4 (show decode (tC tMd_writePacket) 39 = .ok (.getfield 177, 3) by decide +kernel) ?_
      refine v_iload_n (pc := 42) (show decode (tC tMd_writePacket) 42 = .ok (.iload_n 3, 1) by decide +kernel) 3 rfl rfl ?_
      obtain ⟨v5, e6, h⟩ := ob h
      refine v_iald (pc := 43) e6 (show decode (tC tMd_writePacket) 43 = .ok (.iaload, 1) by decide +kernel) ?_
      refine v_istore (pc := 44) [(4, .int v5), (0, .ref x0), (1, .int x1), (2, .int x2), (3, .int x3)] (show decode (tC tMd_writePacket) 44 = .ok (.istore 4, 2) by decide +kernel) (by decide) rfl ?_
      refine v_aload_n (pc := 46) (show decode (tC tMd_writePacket) 46 = .ok (.aload_n 0, 1) by decide +kernel) 1 rfl rfl ?_
      obtain ⟨v7, e8, h⟩ := ob h
      refine v_getX (pc := 47) oF_Md_7 e8 (show decode (tC tMd_writePacket) 47 = .ok (.getfield 7, 3) by decide +kernel) ?_
      refine v_iload (pc := 50) (show decode (tC tMd_writePacket) 50 = .ok (.iload 4, 2) by decide +kernel) 0 rfl ?_
      obtain ⟨v9, e10, h⟩ := ob h
      refine v_iald (pc := 52) e10 (show decode (tC tMd_writePacket) 52 = .ok (.iaload, 1) by decide +kernel) ?_
      refine v_iconst (pc := 53) (v := 1) (show decode (tC tMd_writePacket) 53 = .ok (.iconst 1, 1) by decide +kernel) (by decide) ?_
      refine v_isub (pc := 54) (show decode (tC tMd_writePacket) 54 = .ok (.isub, 1) by decide +kernel) ?_
      refine v_istore (pc := 55) [(5, .int (v9 - 1)), (4, .int v5), (0, .ref x0), (1, .int x1), (2, .int x2), (3, .int x3)] (show decode (tC tMd_writePacket) 55 = .ok (.istore 5, 2) by decide +kernel) (by decide) rfl ?_
      refine v_sub [(0, .ref x0), (1, .int x1), (2, .int x2), (3, .int x3), (4, .int v5), (5, .int (v9 - 1))] [2, 3, 4, 5, 1, 0] rfl ?_
      exact wMd_writePacket_57 hR hl (fun y0 y1 y2 y3 T h => ih y0 y1 y2 y3 T h) fuel x0 x1 x2 x3 v5 (v9 - 1) S h
def fMd_writePacket_4  : Nat → Nat → Int32 → Int32 → Int32 → Sx → Option (Sx)
  | 0, _, _, _, _, _ => none
  | n + 1, x0, x1, x2, x3, S =>
    if (60 : Int32) ≤ x3 then
    (fMd_writePacket_30  fuel x0 x1 x2 0 S)
    else
    ((gX S 12 70 x0).bind fun v1 =>
    (qI S v1 ((60 * x1) + x3) 0).bind fun S3 =>
    fMd_writePacket_4 n x0 x1 x2 (x3 + 1) S3)
set_option maxRecDepth 100000 in
set_option maxHeartbeats 4000000 in
theorem wMd_writePacket_4 {Γ : vG} (hR : gR Γ = rMd_writePacket) (hl : (gl Γ).flags = pinnedFlags ++ [noTraceFlag]) {X : Sx}  : ∀ (n : Nat) (x0 : Nat) (x1 : Int32) (x2 : Int32) (x3 : Int32) (S : Sx), fMd_writePacket_4  n x0 x1 x2 x3 S = some X → vV Γ tMd_writePacket (mQ Γ 0 0 0 none X) S 0 0 4 [(0, .ref x0), (1, .int x1), (2, .int x2), (3, .int x3)] [] := by
  intro n
  induction n with
  | zero => intro x0 x1 x2 x3 S h; rw [fMd_writePacket_4] at h; cases h
  | succ n ih =>
    intro x0 x1 x2 x3 S h
    rw [fMd_writePacket_4] at h
    refine v_iload_n (pc := 4) (show decode (tC tMd_writePacket) 4 = .ok (.iload_n 3, 1) by decide +kernel) 3 rfl rfl ?_
    refine v_bipush (pc := 5) (v := 60) (show decode (tC tMd_writePacket) 5 = .ok (.bipush 60, 2) by decide +kernel) (by decide) ?_
    refine v_icmp_ge (pc := 7) 28 (show decode (tC tMd_writePacket) 7 = .ok (.if_icmp .ge 21, 3) by decide +kernel) (by decide) (fun c => ?_) (fun c => ?_)
    · replace h := ite_t c h
      refine v_iconst (pc := 28) (v := 0) (show decode (tC tMd_writePacket) 28 = .ok (.iconst 0, 1) by decide +kernel) (by decide) ?_
      refine v_istore_n (pc := 29) [(3, .int 0), (0, .ref x0), (1, .int x1), (2, .int x2)] (show decode (tC tMd_writePacket) 29 = .ok (.istore_n 3, 1) by decide +kernel) rfl (by decide) rfl ?_
      refine v_sub [(0, .ref x0), (1, .int x1), (2, .int x2), (3, .int 0)] [1, 2, 3, 0] rfl ?_
      exact wMd_writePacket_30 hR hl  fuel x0 x1 x2 0 S h
    · replace h := ite_f c h
      refine v_aload_n (pc := 10) (show decode (tC tMd_writePacket) 10 = .ok (.aload_n 0, 1) by decide +kernel) 0 rfl rfl ?_
      obtain ⟨v1, e2, h⟩ := ob h
      refine v_getX (pc := 11) oF_Md_164 e2 (show decode (tC tMd_writePacket) 11 = .ok (.getfield 164, 3) by decide +kernel) ?_
      refine v_bipush (pc := 14) (v := 60) (show decode (tC tMd_writePacket) 14 = .ok (.bipush 60, 2) by decide +kernel) (by decide) ?_
      refine v_iload_n (pc := 16) (show decode (tC tMd_writePacket) 16 = .ok (.iload_n 1, 1) by decide +kernel) 1 rfl rfl ?_
      refine v_imul (pc := 17) (show decode (tC tMd_writePacket) 17 = .ok (.imul, 1) by decide +kernel) ?_
      refine v_iload_n (pc := 18) (show decode (tC tMd_writePacket) 18 = .ok (.iload_n 3, 1) by decide +kernel) 3 rfl rfl ?_
      refine v_iadd (pc := 19) (show decode (tC tMd_writePacket) 19 = .ok (.iadd, 1) by decide +kernel) ?_
      refine v_iconst (pc := 20) (v := 0) (show decode (tC tMd_writePacket) 20 = .ok (.iconst 0, 1) by decide +kernel) (by decide) ?_
      obtain ⟨S3, e4, h⟩ := ob h
      refine v_iast (pc := 21) e4 (show decode (tC tMd_writePacket) 21 = .ok (.iastore, 1) by decide +kernel) ?_
      refine v_iinc (pc := 22) (j := 3) [(3, .int (x3 + 1)), (0, .ref x0), (1, .int x1), (2, .int x2)] (show decode (tC tMd_writePacket) 22 = .ok (.iinc 3 1, 3) by decide +kernel) rfl rfl (by decide) rfl ?_
      refine v_goto (pc := 25) 4 (show decode (tC tMd_writePacket) 25 = .ok (.goto (-21), 3) by decide +kernel) (by decide) ?_
      refine v_sub [(0, .ref x0), (1, .int x1), (2, .int x2), (3, .int (x3 + 1))] [1, 2, 3, 0] rfl ?_
      exact ih x0 x1 x2 (x3 + 1) S3 h
def fMd_writePacket (x0 : Nat) (x1 : Int32) (S : Sx) : Option (Sx) :=
    fMd_writePacket_4  fuel x0 x1 0 0 S
set_option maxRecDepth 100000 in
set_option maxHeartbeats 4000000 in
theorem wMd_writePacket {Γ : vG} (hR : gR Γ = rMd_writePacket) (hl : (gl Γ).flags = pinnedFlags ++ [noTraceFlag]) (x0 : Nat) (x1 : Int32) (S : Sx) {X : Sx} (h : fMd_writePacket x0 x1 S = some X) : vV Γ tMd_writePacket (mQ Γ 0 0 0 none X) S 0 0 0 [(0, .ref x0), (1, .int x1)] [] := by
  unfold fMd_writePacket at h
  refine v_iconst (pc := 0) (v := 0) (show decode (tC tMd_writePacket) 0 = .ok (.iconst 0, 1) by decide +kernel) (by decide) ?_
  refine v_istore_n (pc := 1) [(2, .int 0), (0, .ref x0), (1, .int x1)] (show decode (tC tMd_writePacket) 1 = .ok (.istore_n 2, 1) by decide +kernel) rfl (by decide) rfl ?_
  refine v_iconst (pc := 2) (v := 0) (show decode (tC tMd_writePacket) 2 = .ok (.iconst 0, 1) by decide +kernel) (by decide) ?_
  refine v_istore_n (pc := 3) [(3, .int 0), (2, .int 0), (0, .ref x0), (1, .int x1)] (show decode (tC tMd_writePacket) 3 = .ok (.istore_n 3, 1) by decide +kernel) rfl (by decide) rfl ?_
  refine v_sub [(0, .ref x0), (1, .int x1), (2, .int 0), (3, .int 0)] [2, 3, 1, 0] rfl ?_
  exact wMd_writePacket_4 hR hl  fuel x0 x1 0 0 S h
theorem cMd_writePacket {l : Launch} (hl : l.flags = pinnedFlags ++ [noTraceFlag]) {D : va_G} {dA : Nat → ClassId} {B : Nat} {x0 : Nat} {x1 : Int32} {S : Sx} {X : Sx} (h : fMd_writePacket x0 x1 S = some X) : Mx l yMd_writePacket tMd_writePacket rMd_writePacket 0 0 D dA B S [.ref x0, .int x1] 0 none X :=
  mx_of hl (by decide) rfl rfl (Nat.le_of_ble_eq_true rfl) (fun Γ e1 e2 e3 e4 e5 => by subst e1; subst e3; subst e4; subst e5; exact wMd_writePacket e2 hl x0 x1 S h)
/-! MatchPipeModel.doFirst()V -/
def yMd_doFirst : MethodName := ⟨"MatchPipeModel", "doFirst", "()V"⟩
def tMd_doFirst : tM := (prog_14_method_49_code, "MatchPipeModel", 4, "doFirst", none, [])
def rMd_doFirst : Room := { frames := 4, cells := 0, slots := 0, locals := 96 }
theorem kMd_doFirst : cOf yMd_doFirst tMd_doFirst ∈ gT := gT_in 1557 (by decide +kernel) rfl
theorem iMd_doFirst : Cond.initialized yMd_doFirst.cls ∈ gT := gT_in 68 (by decide +kernel) rfl
theorem mMd_doFirst : okM yMd_doFirst 0 := ⟨by decide, by decide, by unfold nPar; decide +kernel⟩
theorem nMd_doFirst : Cond.instanceMethod yMd_doFirst ∈ gT := gT_in 1556 (by decide +kernel) rfl
theorem lMd_doFirst : Cond.selects "MatchPipeModel" yMd_doFirst yMd_doFirst ∈ gT := gT_in 35 (by decide +kernel) rfl
def fMd_doFirst_163  : Nat → Nat → Int32 → Sx → Option (Sx)
  | 0, _, _, _ => none
  | n + 1, x0, x3, S =>
    (gI S 12 53 x0).bind fun v1 =>
    if v1 ≤ x3 then
    (some S)
    else
    ((ckd S x0 12).bind fun _ =>
    (fMd_moveDown x0 x3 S).bind fun S5 =>
    fMd_doFirst_163 n x0 (x3 + 1) S5)
set_option maxRecDepth 100000 in
set_option maxHeartbeats 4000000 in
theorem wMd_doFirst_163 {Γ : vG} (hR : gR Γ = rMd_doFirst) (hl : (gl Γ).flags = pinnedFlags ++ [noTraceFlag]) {X : Sx}  : ∀ (n : Nat) (x0 : Nat) (x3 : Int32) (S : Sx), fMd_doFirst_163  n x0 x3 S = some X → vV Γ tMd_doFirst (mQ Γ 0 0 0 none X) S 0 0 163 [(0, .ref x0), (3, .int x3)] [] := by
  intro n
  induction n with
  | zero => intro x0 x3 S h; rw [fMd_doFirst_163] at h; cases h
  | succ n ih =>
    intro x0 x3 S h
    rw [fMd_doFirst_163] at h
    refine v_iload_n (pc := 163) (show decode (tC tMd_doFirst) 163 = .ok (.iload_n 3, 1) by decide +kernel) 1 rfl rfl ?_
    refine v_aload_n (pc := 164) (show decode (tC tMd_doFirst) 164 = .ok (.aload_n 0, 1) by decide +kernel) 0 rfl rfl ?_
    obtain ⟨v1, e2, h⟩ := ob h
    refine v_getI (pc := 165) oF_Md_229 (by decide) e2 (show decode (tC tMd_doFirst) 165 = .ok (.getfield 229, 3) by decide +kernel) ?_
    refine v_icmp_ge (pc := 168) 182 (show decode (tC tMd_doFirst) 168 = .ok (.if_icmp .ge 14, 3) by decide +kernel) (by decide) (fun c => ?_) (fun c => ?_)
    · replace h := ite_t c h
      obtain rfl := Option.some.inj h
      refine v_wide (ce2 := 0) (sl2 := 0) (by decide) (by decide) ?_
      exact v_vret (pc := 182) rfl (show decode (tC tMd_doFirst) 182 = .ok (.return_, 1) by decide +kernel)
    · replace h := ite_f c h
      refine v_aload_n (pc := 171) (show decode (tC tMd_doFirst) 171 = .ok (.aload_n 0, 1) by decide +kernel) 0 rfl rfl ?_
      refine v_iload_n (pc := 172) (show decode (tC tMd_doFirst) 172 = .ok (.iload_n 3, 1) by decide +kernel) 1 rfl rfl ?_
      obtain ⟨_, e4, h⟩ := ob h
      obtain ⟨S5, e3, h⟩ := ob h
      refine v_call (pc := 173) (v := none) (y := yMd_moveDown) (θ' := tMd_moveDown) (rm := rMd_moveDown) (av := [.ref x0, .int x3]) (st := []) (cMd_moveDown (l := gl Γ) hl e3) kMd_moveDown iMd_moveDown (iv_virt (y := yMd_moveDown) (θ' := tMd_moveDown) (kd := 12) (As := [.int x3]) rfl (ckd_of e4) kMd_moveDown (gT_in 1626 (by decide +kernel) rfl) nMd_moveDown lMd_moveDown mMd_moveDown rfl (show decode (tC tMd_doFirst) 173 = .ok (.invokevirtual 349, 3) by decide +kernel)) ⟨by rw [hR]; decide, by rw [hR]; decide, by rw [hR]; decide, by rw [hR]; decide⟩ (Nat.le_of_ble_eq_true rfl) ?_
      refine v_iinc (pc := 176) (j := 1) [(3, .int (x3 + 1)), (0, .ref x0)] (show decode (tC tMd_doFirst) 176 = .ok (.iinc 3 1, 3) by decide +kernel) rfl rfl (by decide) rfl ?_
      refine v_goto (pc := 179) 163 (show decode (tC tMd_doFirst) 179 = .ok (.goto (-16), 3) by decide +kernel) (by decide) ?_
      refine v_sub [(0, .ref x0), (3, .int (x3 + 1))] [1, 0] rfl ?_
      exact ih x0 (x3 + 1) S5 h
def fMd_doFirst_141  (x0 : Nat) (S : Sx) : Option (Sx) :=
    (gI S 12 54 x0).bind fun v1 =>
    (pI S 12 54 x0 (v1 + 1)).bind fun S3 =>
    (gI S3 12 53 x0).bind fun v5 =>
    (pI S3 12 53 x0 (v5 - 1)).bind fun S7 =>
    fMd_doFirst_163  fuel x0 0 S7
set_option maxRecDepth 100000 in
set_option maxHeartbeats 4000000 in
theorem wMd_doFirst_141 {Γ : vG} (hR : gR Γ = rMd_doFirst) (hl : (gl Γ).flags = pinnedFlags ++ [noTraceFlag]) {X : Sx}  : ∀ (x0 : Nat) (S : Sx), fMd_doFirst_141  x0 S = some X → vV Γ tMd_doFirst (mQ Γ 0 0 0 none X) S 0 0 141 [(0, .ref x0)] [] := by
  intro x0 S h
  unfold fMd_doFirst_141 at h
  refine v_aload_n (pc := 141) (show decode (tC tMd_doFirst) 141 = .ok (.aload_n 0, 1) by decide +kernel) 0 rfl rfl ?_
  refine v_dup (pc := 142) (show decode (tC tMd_doFirst) 142 = .ok (.dup, 1) by decide +kernel) rfl ?_
  obtain ⟨v1, e2, h⟩ := ob h
  refine v_getI (pc := 143) oF_Md_232 (by decide) e2 (show decode (tC tMd_doFirst) 143 = .ok (.getfield 232, 3) by decide +kernel) ?_
  refine v_iconst (pc := 146) (v := 1) (show decode (tC tMd_doFirst) 146 = .ok (.iconst 1, 1) by decide +kernel) (by decide) ?_
  refine v_iadd (pc := 147) (show decode (tC tMd_doFirst) 147 = .ok (.iadd, 1) by decide +kernel) ?_
  obtain ⟨S3, e4, h⟩ := ob h
  refine v_putI (pc := 148) oF_Md_232 (fin_ok (kd := 12) (k := 54) (by decide +kernel)) e4 (show decode (tC tMd_doFirst) 148 = .ok (.putfield 232, 3) by decide +kernel) ?_
  refine v_aload_n (pc := 151) (show decode (tC tMd_doFirst) 151 = .ok (.aload_n 0, 1) by decide +kernel) 0 rfl rfl ?_
  refine v_dup (pc := 152) (show decode (tC tMd_doFirst) 152 = .ok (.dup, 1) by decide +kernel) rfl ?_
  obtain ⟨v5, e6, h⟩ := ob h
  refine v_getI (pc := 153) oF_Md_229 (by decide) e6 (show decode (tC tMd_doFirst) 153 = .ok (.getfield 229, 3) by decide +kernel) ?_
  refine v_iconst (pc := 156) (v := 1) (show decode (tC tMd_doFirst) 156 = .ok (.iconst 1, 1) by decide +kernel) (by decide) ?_
  refine v_isub (pc := 157) (show decode (tC tMd_doFirst) 157 = .ok (.isub, 1) by decide +kernel) ?_
  obtain ⟨S7, e8, h⟩ := ob h
  refine v_putI (pc := 158) oF_Md_229 (fin_ok (kd := 12) (k := 53) (by decide +kernel)) e8 (show decode (tC tMd_doFirst) 158 = .ok (.putfield 229, 3) by decide +kernel) ?_
  refine v_iconst (pc := 161) (v := 0) (show decode (tC tMd_doFirst) 161 = .ok (.iconst 0, 1) by decide +kernel) (by decide) ?_
  refine v_istore_n (pc := 162) [(3, .int 0), (0, .ref x0)] (show decode (tC tMd_doFirst) 162 = .ok (.istore_n 3, 1) by decide +kernel) rfl (by decide) rfl ?_
  refine v_sub [(0, .ref x0), (3, .int 0)] [1, 0] rfl ?_
  exact wMd_doFirst_163 hR hl  fuel x0 0 S7 h
def fMd_doFirst_124  (x0 : Nat) (x1 : Int32) (x3 : Int32) (z0 : Int32) (z1 : Int32) (z2 : Nat) (S : Sx) : Option (Sx) :=
    (qI S z2 z1 z0).bind fun S1 =>
    if x3 = 0 then
    (fMd_doFirst_141  x0 S1)
    else
    ((gI S1 12 76 x0).bind fun v3 =>
    if v3 = 0 then
    ((ckd S1 x0 12).bind fun _ =>
    (fMd_writePacket x0 x1 S1).bind fun S7 =>
    fMd_doFirst_141  x0 S7)
    else
    (fMd_doFirst_141  x0 S1))
set_option maxRecDepth 100000 in
set_option maxHeartbeats 4000000 in
theorem wMd_doFirst_124 {Γ : vG} (hR : gR Γ = rMd_doFirst) (hl : (gl Γ).flags = pinnedFlags ++ [noTraceFlag]) {X : Sx}  : ∀ (x0 : Nat) (x1 : Int32) (x3 : Int32) (z0 : Int32) (z1 : Int32) (z2 : Nat) (S : Sx), fMd_doFirst_124  x0 x1 x3 z0 z1 z2 S = some X → vV Γ tMd_doFirst (mQ Γ 0 0 0 none X) S 0 0 124 [(0, .ref x0), (1, .int x1), (3, .int x3)] [.int z0, .int z1, .ref z2] := by
  intro x0 x1 x3 z0 z1 z2 S h
  unfold fMd_doFirst_124 at h
  obtain ⟨S1, e2, h⟩ := ob h
  refine v_iast (pc := 124) e2 (show decode (tC tMd_doFirst) 124 = .ok (.iastore, 1) by decide +kernel) ?_
  refine v_iload_n (pc := 125) (show decode (tC tMd_doFirst) 125 = .ok (.iload_n 3, 1) by decide +kernel) 2 rfl rfl ?_
  refine v_if_eq (pc := 126) 141 (show decode (tC tMd_doFirst) 126 = .ok (.ifCond .eq 15, 3) by decide +kernel) (by decide) (fun c => ?_) (fun c => ?_)
  · replace h := ite_t c h
    refine v_sub [(0, .ref x0)] [0] rfl ?_
    exact wMd_doFirst_141 hR hl  x0 S1 h
  · replace h := ite_f c h
    refine v_aload_n (pc := 129) (show decode (tC tMd_doFirst) 129 = .ok (.aload_n 0, 1) by decide +kernel) 0 rfl rfl ?_
    obtain ⟨v3, e4, h⟩ := ob h
    refine v_getI (pc := 130) oF_Md_307 (by decide) e4 (show decode (tC tMd_doFirst) 130 = .ok (.getfield 307, 3) by decide +kernel) ?_
    refine v_if_ne (pc := 133) 141 (show decode (tC tMd_doFirst) 133 = .ok (.ifCond .ne 8, 3) by decide +kernel) (by decide) (fun c => ?_) (fun c => ?_)
    · replace h := ite_f c h
      refine v_sub [(0, .ref x0)] [0] rfl ?_
      exact wMd_doFirst_141 hR hl  x0 S1 h
    · replace h := ite_t c h
      refine v_aload_n (pc := 136) (show decode (tC tMd_doFirst) 136 = .ok (.aload_n 0, 1) by decide +kernel) 0 rfl rfl ?_
      refine v_iload_n (pc := 137) (show decode (tC tMd_doFirst) 137 = .ok (.iload_n 1, 1) by decide +kernel) 1 rfl rfl ?_
      obtain ⟨_, e6, h⟩ := ob h
      obtain ⟨S7, e5, h⟩ := ob h
      refine v_call (pc := 138) (v := none) (y := yMd_writePacket) (θ' := tMd_writePacket) (rm := rMd_writePacket) (av := [.ref x0, .int x1]) (st := []) (cMd_writePacket (l := gl Γ) hl e5) kMd_writePacket iMd_writePacket (iv_virt (y := yMd_writePacket) (θ' := tMd_writePacket) (kd := 12) (As := [.int x1]) rfl (ckd_of e6) kMd_writePacket (gT_in 1618 (by decide +kernel) rfl) nMd_writePacket lMd_writePacket mMd_writePacket rfl (show decode (tC tMd_doFirst) 138 = .ok (.invokevirtual 346, 3) by decide +kernel)) ⟨by rw [hR]; decide, by rw [hR]; decide, by rw [hR]; decide, by rw [hR]; decide⟩ (Nat.le_of_ble_eq_true rfl) ?_
      refine v_sub [(0, .ref x0)] [0] rfl ?_
      exact wMd_doFirst_141 hR hl  x0 S7 h
def fMd_doFirst_99  (x0 : Nat) (x1 : Int32) (x3 : Int32) (S : Sx) : Option (Sx) :=
    (gX S 12 67 x0).bind fun v1 =>
    if x3 = 0 then
    (fMd_doFirst_124  x0 x1 x3 2 x1 v1 S)
    else
    ((gI S 12 76 x0).bind fun v3 =>
    if v3 = 0 then
    (fMd_doFirst_124  x0 x1 x3 0 x1 v1 S)
    else
    (fMd_doFirst_124  x0 x1 x3 1 x1 v1 S))
set_option maxRecDepth 100000 in
set_option maxHeartbeats 4000000 in
theorem wMd_doFirst_99 {Γ : vG} (hR : gR Γ = rMd_doFirst) (hl : (gl Γ).flags = pinnedFlags ++ [noTraceFlag]) {X : Sx}  : ∀ (x0 : Nat) (x1 : Int32) (x3 : Int32) (S : Sx), fMd_doFirst_99  x0 x1 x3 S = some X → vV Γ tMd_doFirst (mQ Γ 0 0 0 none X) S 0 0 99 [(0, .ref x0), (1, .int x1), (3, .int x3)] [] := by
  intro x0 x1 x3 S h
  unfold fMd_doFirst_99 at h
  refine v_aload_n (pc := 99) (show decode (tC tMd_doFirst) 99 = .ok (.aload_n 0, 1) by decide +kernel) 0 rfl rfl ?_
  obtain ⟨v1, e2, h⟩ := ob h
  refine v_getX (pc := 100) oF_Md_155 e2 (show decode (tC tMd_doFirst) 100 = .ok (.getfield 155, 3) by decide +kernel) ?_
  refine v_iload_n (pc := 103) (show decode (tC tMd_doFirst) 103 = .ok (.iload_n 1, 1) by decide +kernel) 1 rfl rfl ?_
  refine v_iload_n (pc := 104) (show decode (tC tMd_doFirst) 104 = .ok (.iload_n 3, 1) by decide +kernel) 2 rfl rfl ?_
  refine v_if_ne (pc := 105) 112 (show decode (tC tMd_doFirst) 105 = .ok (.ifCond .ne 7, 3) by decide +kernel) (by decide) (fun c => ?_) (fun c => ?_)
  · replace h := ite_f c h
    refine v_aload_n (pc := 112) (show decode (tC tMd_doFirst) 112 = .ok (.aload_n 0, 1) by decide +kernel) 0 rfl rfl ?_
    obtain ⟨v3, e4, h⟩ := ob h
    refine v_getI (pc := 113) oF_Md_307 (by decide) e4 (show decode (tC tMd_doFirst) 113 = .ok (.getfield 307, 3) by decide +kernel) ?_
    refine v_if_eq (pc := 116) 123 (show decode (tC tMd_doFirst) 116 = .ok (.ifCond .eq 7, 3) by decide +kernel) (by decide) (fun c => ?_) (fun c => ?_)
    · replace h := ite_t c h
      refine v_iconst (pc := 123) (v := 0) (show decode (tC tMd_doFirst) 123 = .ok (.iconst 0, 1) by decide +kernel) (by decide) ?_
      exact wMd_doFirst_124 hR hl  x0 x1 x3 0 x1 v1 S h
    · replace h := ite_f c h
      refine v_iconst (pc := 119) (v := 1) (show decode (tC tMd_doFirst) 119 = .ok (.iconst 1, 1) by decide +kernel) (by decide) ?_
      refine v_goto (pc := 120) 124 (show decode (tC tMd_doFirst) 120 = .ok (.goto 4, 3) by decide +kernel) (by decide) ?_
      exact wMd_doFirst_124 hR hl  x0 x1 x3 1 x1 v1 S h
  · replace h := ite_t c h
    refine v_iconst (pc := 108) (v := 2) (show decode (tC tMd_doFirst) 108 = .ok (.iconst 2, 1) by decide +kernel) (by decide) ?_
    refine v_goto (pc := 109) 124 (show decode (tC tMd_doFirst) 109 = .ok (.goto 15, 3) by decide +kernel) (by decide) ?_
    exact wMd_doFirst_124 hR hl  x0 x1 x3 2 x1 v1 S h
def fMd_doFirst_82  (x0 : Nat) (z0 : Int32) (z1 : Int32) (z2 : Nat) (S : Sx) : Option (Sx) :=
    (qI S z2 z1 z0).bind fun S1 =>
    fMd_doFirst_141  x0 S1
set_option maxRecDepth 100000 in
set_option maxHeartbeats 4000000 in
theorem wMd_doFirst_82 {Γ : vG} (hR : gR Γ = rMd_doFirst) (hl : (gl Γ).flags = pinnedFlags ++ [noTraceFlag]) {X : Sx}  : ∀ (x0 : Nat) (z0 : Int32) (z1 : Int32) (z2 : Nat) (S : Sx), fMd_doFirst_82  x0 z0 z1 z2 S = some X → vV Γ tMd_doFirst (mQ Γ 0 0 0 none X) S 0 0 82 [(0, .ref x0)] [.int z0, .int z1, .ref z2] := by
  intro x0 z0 z1 z2 S h
  unfold fMd_doFirst_82 at h
  obtain ⟨S1, e2, h⟩ := ob h
  refine v_iast (pc := 82) e2 (show decode (tC tMd_doFirst) 82 = .ok (.iastore, 1) by decide +kernel) ?_
  refine v_goto (pc := 83) 141 (show decode (tC tMd_doFirst) 83 = .ok (.goto 58, 3) by decide +kernel) (by decide) ?_
  exact wMd_doFirst_141 hR hl  x0 S1 h
def fMd_doFirst_67  (x0 : Nat) (x1 : Int32) (z0 : Int32) (S : Sx) : Option (Sx) :=
    (gX S 12 67 x0).bind fun v1 =>
    if z0 = 0 then
    (fMd_doFirst_82  x0 1 x1 v1 S)
    else
    (fMd_doFirst_82  x0 0 x1 v1 S)
set_option maxRecDepth 100000 in
set_option maxHeartbeats 4000000 in
theorem wMd_doFirst_67 {Γ : vG} (hR : gR Γ = rMd_doFirst) (hl : (gl Γ).flags = pinnedFlags ++ [noTraceFlag]) {X : Sx}  : ∀ (x0 : Nat) (x1 : Int32) (z0 : Int32) (S : Sx), fMd_doFirst_67  x0 x1 z0 S = some X → vV Γ tMd_doFirst (mQ Γ 0 0 0 none X) S 0 0 67 [(0, .ref x0), (1, .int x1)] [.int z0] := by
  intro x0 x1 z0 S h
  unfold fMd_doFirst_67 at h
  refine v_istore_n (pc := 67) [(3, .int z0), (0, .ref x0), (1, .int x1)] (show decode (tC tMd_doFirst) 67 = .ok (.istore_n 3, 1) by decide +kernel) rfl (by decide) rfl ?_
  refine v_aload_n (pc := 68) (show decode (tC tMd_doFirst) 68 = .ok (.aload_n 0, 1) by decide +kernel) 1 rfl rfl ?_
  obtain ⟨v1, e2, h⟩ := ob h
  refine v_getX (pc := 69) oF_Md_155 e2 (show decode (tC tMd_doFirst) 69 = .ok (.getfield 155, 3) by decide +kernel) ?_
  refine v_iload_n (pc := 72) (show decode (tC tMd_doFirst) 72 = .ok (.iload_n 1, 1) by decide +kernel) 2 rfl rfl ?_
  refine v_iload_n (pc := 73) (show decode (tC tMd_doFirst) 73 = .ok (.iload_n 3, 1) by decide +kernel) 0 rfl rfl ?_
  refine v_if_eq (pc := 74) 81 (show decode (tC tMd_doFirst) 74 = .ok (.ifCond .eq 7, 3) by decide +kernel) (by decide) (fun c => ?_) (fun c => ?_)
  · replace h := ite_t c h
    refine v_iconst (pc := 81) (v := 1) (show decode (tC tMd_doFirst) 81 = .ok (.iconst 1, 1) by decide +kernel) (by decide) ?_
    refine v_sub [(0, .ref x0)] [1] rfl ?_
    exact wMd_doFirst_82 hR hl  x0 1 x1 v1 S h
  · replace h := ite_f c h
    refine v_iconst (pc := 77) (v := 0) (show decode (tC tMd_doFirst) 77 = .ok (.iconst 0, 1) by decide +kernel) (by decide) ?_
    refine v_goto (pc := 78) 82 (show decode (tC tMd_doFirst) 78 = .ok (.goto 4, 3) by decide +kernel) (by decide) ?_
    refine v_sub [(0, .ref x0)] [1] rfl ?_
    exact wMd_doFirst_82 hR hl  x0 0 x1 v1 S h
def fMd_doFirst (x0 : Nat) (S : Sx) : Option (Sx) :=
    (gI S 12 54 x0).bind fun v1 =>
    (gX S 12 57 x0).bind fun v4 =>
    (aI S v4 0).bind fun v6 =>
    (gX S 12 66 x0).bind fun v8 =>
    (qI S v8 (v1 - v1 / 128 * 128) v6).bind fun S10 =>
    (gX S10 12 71 x0).bind fun v12 =>
    (gI S10 12 56 x0).bind fun v14 =>
    (qI S10 v12 (v1 - v1 / 128 * 128) v14).bind fun S16 =>
    (gX S16 12 68 x0).bind fun v18 =>
    (qI S16 v18 (v1 - v1 / 128 * 128) (-1)).bind fun S20 =>
    (gX S20 12 69 x0).bind fun v22 =>
    (qI S20 v22 (v1 - v1 / 128 * 128) (-1)).bind fun S24 =>
    if v6 ≤ 0 then
    ((ckd S24 x0 12).bind fun _ =>
    bd2 (fMd_readPacket x0 S24) fun r28 S29 =>
    if r28 = 0 then
    (fMd_doFirst_99  x0 (v1 - v1 / 128 * 128) r28 S29)
    else
    ((ckd S29 x0 12).bind fun _ =>
    (fMd_goThrough x0 S29).bind fun S32 =>
    fMd_doFirst_99  x0 (v1 - v1 / 128 * 128) r28 S32))
    else
    (if v6 = 1 then
    ((ckd S24 x0 12).bind fun _ =>
    bd2 (fMd_entryComes x0 S24) fun r39 S40 =>
    fMd_doFirst_67  x0 (v1 - v1 / 128 * 128) r39 S40)
    else
    ((ckd S24 x0 12).bind fun _ =>
    bd2 (fMd_entryGoes x0 S24) fun r35 S36 =>
    fMd_doFirst_67  x0 (v1 - v1 / 128 * 128) r35 S36))
set_option maxRecDepth 100000 in
set_option maxHeartbeats 4000000 in
theorem wMd_doFirst {Γ : vG} (hR : gR Γ = rMd_doFirst) (hl : (gl Γ).flags = pinnedFlags ++ [noTraceFlag]) (x0 : Nat) (S : Sx) {X : Sx} (h : fMd_doFirst x0 S = some X) : vV Γ tMd_doFirst (mQ Γ 0 0 0 none X) S 0 0 0 [(0, .ref x0)] [] := by
  unfold fMd_doFirst at h
  refine v_aload_n (pc := 0) (show decode (tC tMd_doFirst) 0 = .ok (.aload_n 0, 1) by decide +kernel) 0 rfl rfl ?_
  obtain ⟨v1, e2, h⟩ := ob h
  refine v_getI (pc := 1) oF_Md_232 (by decide) e2 (show decode (tC tMd_doFirst) 1 = .ok (.getfield 232, 3) by decide +kernel) ?_
  refine v_sipush (pc := 4) (v := 128) (show decode (tC tMd_doFirst) 4 = .ok (.sipush 128, 3) by decide +kernel) (by decide) ?_
  refine v_irem (pc := 7) (show decode (tC tMd_doFirst) 7 = .ok (.irem, 1) by decide +kernel) (by decide) ?_
  refine v_istore_n (pc := 8) [(1, .int (v1 - v1 / 128 * 128)), (0, .ref x0)] (show decode (tC tMd_doFirst) 8 = .ok (.istore_n 1, 1) by decide +kernel) rfl (by decide) rfl ?_
  refine v_aload_n (pc := 9) (show decode (tC tMd_doFirst) 9 = .ok (.aload_n 0, 1) by decide +kernel) 1 rfl rfl ?_
  obtain ⟨v4, e5, h⟩ := ob h
  refine v_getX (pc := 10) oF_Md_125 e5 (show decode (tC tMd_doFirst) 10 = .ok (.getfield 125, 3) by decide +kernel) ?_
  refine v_iconst (pc := 13) (v := 0) (show decode (tC tMd_doFirst) 13 = .ok (.iconst 0, 1) by decide +kernel) (by decide) ?_
  obtain ⟨v6, e7, h⟩ := ob h
  refine v_iald (pc := 14) e7 (show decode (tC tMd_doFirst) 14 = .ok (.iaload, 1) by decide +kernel) ?_
  refine v_istore_n (pc := 15) [(2, .int v6), (1, .int (v1 - v1 / 128 * 128)), (0, .ref x0)] (show decode (tC tMd_doFirst) 15 = .ok (.istore_n 2, 1) by decide +kernel) rfl (by decide) rfl ?_
  refine v_aload_n (pc := 16) (show decode (tC tMd_doFirst) 16 = .ok (.aload_n 0, 1) by decide +kernel) 2 rfl rfl ?_
  obtain ⟨v8, e9, h⟩ := ob h
  refine v_getX (pc := 17) oF_Md_152 e9 (show decode (tC tMd_doFirst) 17 = .ok (.getfield 152, 3) by decide +kernel) ?_
  refine v_iload_n (pc := 20) (show decode (tC tMd_doFirst) 20 = .ok (.iload_n 1, 1) by decide +kernel) 1 rfl rfl ?_
  refine v_iload_n (pc := 21) (show decode (tC tMd_doFirst) 21 = .ok (.iload_n 2, 1) by decide +kernel) 0 rfl rfl ?_
  obtain ⟨S10, e11, h⟩ := ob h
  refine v_iast (pc := 22) e11 (show decode (tC tMd_doFirst) 22 = .ok (.iastore, 1) by decide +kernel) ?_
  refine v_aload_n (pc := 23) (show decode (tC tMd_doFirst) 23 = .ok (.aload_n 0, 1) by decide +kernel) 2 rfl rfl ?_
  obtain ⟨v12, e13, h⟩ := ob h
  refine v_getX (pc := 24) oF_Md_167 e13 (show decode (tC tMd_doFirst) 24 = .ok (.getfield 167, 3) by decide +kernel) ?_
  refine v_iload_n (pc := 27) (show decode (tC tMd_doFirst) 27 = .ok (.iload_n 1, 1) by decide +kernel) 1 rfl rfl ?_
  refine v_aload_n (pc := 28) (show decode (tC tMd_doFirst) 28 = .ok (.aload_n 0, 1) by decide +kernel) 2 rfl rfl ?_
  obtain ⟨v14, e15, h⟩ := ob h
  refine v_getI (pc := 29) oF_Md_238 (by decide) e15 (show decode (tC tMd_doFirst) 29 = .ok (.getfield 238, 3) by decide +kernel) ?_
  obtain ⟨S16, e17, h⟩ := ob h
  refine v_iast (pc := 32) e17 (show decode (tC tMd_doFirst) 32 = .ok (.iastore, 1) by decide +kernel) ?_
  refine v_aload_n (pc := 33) (show decode (tC tMd_doFirst) 33 = .ok (.aload_n 0, 1) by decide +kernel) 2 rfl rfl ?_
  obtain ⟨v18, e19, h⟩ := ob h
  refine v_getX (pc := 34) oF_Md_158 e19 (show decode (tC tMd_doFirst) 34 = .ok (.getfield 158, 3) by decide +kernel) ?_
  refine v_iload_n (pc := 37) (show decode (tC tMd_doFirst) 37 = .ok (.iload_n 1, 1) by decide +kernel) 1 rfl rfl ?_
  refine v_iconst (pc := 38) (v := (-1)) (show decode (tC tMd_doFirst) 38 = .ok (.iconst (-1), 1) by decide +kernel) (by decide) ?_
  obtain ⟨S20, e21, h⟩ := ob h
  refine v_iast (pc := 39) e21 (show decode (tC tMd_doFirst) 39 = .ok (.iastore, 1) by decide +kernel) ?_
  refine v_aload_n (pc := 40) (show decode (tC tMd_doFirst) 40 = .ok (.aload_n 0, 1) by decide +kernel) 2 rfl rfl ?_
  obtain ⟨v22, e23, h⟩ := ob h
  refine v_getX (pc := 41) oF_Md_161 e23 (show decode (tC tMd_doFirst) 41 = .ok (.getfield 161, 3) by decide +kernel) ?_
  refine v_iload_n (pc := 44) (show decode (tC tMd_doFirst) 44 = .ok (.iload_n 1, 1) by decide +kernel) 1 rfl rfl ?_
  refine v_iconst (pc := 45) (v := (-1)) (show decode (tC tMd_doFirst) 45 = .ok (.iconst (-1), 1) by decide +kernel) (by decide) ?_
  obtain ⟨S24, e25, h⟩ := ob h
  refine v_iast (pc := 46) e25 (show decode (tC tMd_doFirst) 46 = .ok (.iastore, 1) by decide +kernel) ?_
  refine v_iload_n (pc := 47) (show decode (tC tMd_doFirst) 47 = .ok (.iload_n 2, 1) by decide +kernel) 0 rfl rfl ?_
  refine v_if_le (pc := 48) 86 (show decode (tC tMd_doFirst) 48 = .ok (.ifCond .le 38, 3) by decide +kernel) (by decide) (fun c => ?_) (fun c => ?_)
  · replace h := ite_t c h
    refine v_aload_n (pc := 86) (show decode (tC tMd_doFirst) 86 = .ok (.aload_n 0, 1) by decide +kernel) 2 rfl rfl ?_
    obtain ⟨_, e27, h⟩ := ob h
    obtain ⟨r28, S29, e26, h⟩ := ob2 h
    refine v_call (pc := 87) (v := (some (.int r28))) (y := yMd_readPacket) (θ' := tMd_readPacket) (rm := rMd_readPacket) (av := [.ref x0]) (st := []) (cMd_readPacket (l := gl Γ) hl e26) kMd_readPacket iMd_readPacket (iv_virt (y := yMd_readPacket) (θ' := tMd_readPacket) (kd := 12) (As := []) rfl (ckd_of e27) kMd_readPacket (gT_in 1582 (by decide +kernel) rfl) nMd_readPacket lMd_readPacket mMd_readPacket rfl (show decode (tC tMd_doFirst) 87 = .ok (.invokevirtual 340, 3) by decide +kernel)) ⟨by rw [hR]; decide, by rw [hR]; decide, by rw [hR]; decide, by rw [hR]; decide⟩ (Nat.le_of_ble_eq_true rfl) ?_
    refine v_istore_n (pc := 90) [(3, .int r28), (2, .int v6), (1, .int (v1 - v1 / 128 * 128)), (0, .ref x0)] (show decode (tC tMd_doFirst) 90 = .ok (.istore_n 3, 1) by decide +kernel) rfl (by decide) rfl ?_
    refine v_iload_n (pc := 91) (show decode (tC tMd_doFirst) 91 = .ok (.iload_n 3, 1) by decide +kernel) 0 rfl rfl ?_
    refine v_if_eq (pc := 92) 99 (show decode (tC tMd_doFirst) 92 = .ok (.ifCond .eq 7, 3) by decide +kernel) (by decide) (fun c => ?_) (fun c => ?_)
    · replace h := ite_t c h
      refine v_sub [(0, .ref x0), (1, .int (v1 - v1 / 128 * 128)), (3, .int r28)] [3, 2, 0] rfl ?_
      exact wMd_doFirst_99 hR hl  x0 (v1 - v1 / 128 * 128) r28 S29 h
    · replace h := ite_f c h
      refine v_aload_n (pc := 95) (show decode (tC tMd_doFirst) 95 = .ok (.aload_n 0, 1) by decide +kernel) 3 rfl rfl ?_
      obtain ⟨_, e31, h⟩ := ob h
      obtain ⟨S32, e30, h⟩ := ob h
      refine v_call (pc := 96) (v := none) (y := yMd_goThrough) (θ' := tMd_goThrough) (rm := rMd_goThrough) (av := [.ref x0]) (st := []) (cMd_goThrough (l := gl Γ) hl e30) kMd_goThrough iMd_goThrough (iv_virt (y := yMd_goThrough) (θ' := tMd_goThrough) (kd := 12) (As := []) rfl (ckd_of e31) kMd_goThrough (gT_in 1590 (by decide +kernel) rfl) nMd_goThrough lMd_goThrough mMd_goThrough rfl (show decode (tC tMd_doFirst) 96 = .ok (.invokevirtual 343, 3) by decide +kernel)) ⟨by rw [hR]; decide, by rw [hR]; decide, by rw [hR]; decide, by rw [hR]; decide⟩ (Nat.le_of_ble_eq_true rfl) ?_
      refine v_sub [(0, .ref x0), (1, .int (v1 - v1 / 128 * 128)), (3, .int r28)] [3, 2, 0] rfl ?_
      exact wMd_doFirst_99 hR hl  x0 (v1 - v1 / 128 * 128) r28 S32 h
  · replace h := ite_f c h
    refine v_iload_n (pc := 51) (show decode (tC tMd_doFirst) 51 = .ok (.iload_n 2, 1) by decide +kernel) 0 rfl rfl ?_
    refine v_iconst (pc := 52) (v := 1) (show decode (tC tMd_doFirst) 52 = .ok (.iconst 1, 1) by decide +kernel) (by decide) ?_
    refine v_icmp_ne (pc := 53) 63 (show decode (tC tMd_doFirst) 53 = .ok (.if_icmp .ne 10, 3) by decide +kernel) (by decide) (fun c => ?_) (fun c => ?_)
    · replace h := ite_f c h
      refine v_aload_n (pc := 63) (show decode (tC tMd_doFirst) 63 = .ok (.aload_n 0, 1) by decide +kernel) 2 rfl rfl ?_
      obtain ⟨_, e34, h⟩ := ob h
      obtain ⟨r35, S36, e33, h⟩ := ob2 h
      refine v_call (pc := 64) (v := (some (.int r35))) (y := yMd_entryGoes) (θ' := tMd_entryGoes) (rm := rMd_entryGoes) (av := [.ref x0]) (st := []) (cMd_entryGoes (l := gl Γ) hl e33) kMd_entryGoes iMd_entryGoes (iv_virt (y := yMd_entryGoes) (θ' := tMd_entryGoes) (kd := 12) (As := []) rfl (ckd_of e34) kMd_entryGoes (gT_in 1578 (by decide +kernel) rfl) nMd_entryGoes lMd_entryGoes mMd_entryGoes rfl (show decode (tC tMd_doFirst) 64 = .ok (.invokevirtual 337, 3) by decide +kernel)) ⟨by rw [hR]; decide, by rw [hR]; decide, by rw [hR]; decide, by rw [hR]; decide⟩ (Nat.le_of_ble_eq_true rfl) ?_
      refine v_sub [(0, .ref x0), (1, .int (v1 - v1 / 128 * 128))] [2, 1] rfl ?_
      exact wMd_doFirst_67 hR hl  x0 (v1 - v1 / 128 * 128) r35 S36 h
    · replace h := ite_t c h
      refine v_aload_n (pc := 56) (show decode (tC tMd_doFirst) 56 = .ok (.aload_n 0, 1) by decide +kernel) 2 rfl rfl ?_
      obtain ⟨_, e38, h⟩ := ob h
      obtain ⟨r39, S40, e37, h⟩ := ob2 h
      refine v_call (pc := 57) (v := (some (.int r39))) (y := yMd_entryComes) (θ' := tMd_entryComes) (rm := rMd_entryComes) (av := [.ref x0]) (st := []) (cMd_entryComes (l := gl Γ) hl e37) kMd_entryComes iMd_entryComes (iv_virt (y := yMd_entryComes) (θ' := tMd_entryComes) (kd := 12) (As := []) rfl (ckd_of e38) kMd_entryComes (gT_in 1558 (by decide +kernel) rfl) nMd_entryComes lMd_entryComes mMd_entryComes rfl (show decode (tC tMd_doFirst) 57 = .ok (.invokevirtual 333, 3) by decide +kernel)) ⟨by rw [hR]; decide, by rw [hR]; decide, by rw [hR]; decide, by rw [hR]; decide⟩ (Nat.le_of_ble_eq_true rfl) ?_
      refine v_goto (pc := 60) 67 (show decode (tC tMd_doFirst) 60 = .ok (.goto 7, 3) by decide +kernel) (by decide) ?_
      refine v_sub [(0, .ref x0), (1, .int (v1 - v1 / 128 * 128))] [2, 1] rfl ?_
      exact wMd_doFirst_67 hR hl  x0 (v1 - v1 / 128 * 128) r39 S40 h
theorem cMd_doFirst {l : Launch} (hl : l.flags = pinnedFlags ++ [noTraceFlag]) {D : va_G} {dA : Nat → ClassId} {B : Nat} {x0 : Nat} {S : Sx} {X : Sx} (h : fMd_doFirst x0 S = some X) : Mx l yMd_doFirst tMd_doFirst rMd_doFirst 0 0 D dA B S [.ref x0] 0 none X :=
  mx_of hl (by decide) rfl rfl (Nat.le_of_ble_eq_true rfl) (fun Γ e1 e2 e3 e4 e5 => by subst e1; subst e3; subst e4; subst e5; exact wMd_doFirst e2 hl x0 S h)
/-! MatchPipeModel.run(I)I -/
def yMd_run : MethodName := ⟨"MatchPipeModel", "run", "(I)I"⟩
def tMd_run : tM := (prog_14_method_53_code, "MatchPipeModel", 4, "run", some .int, [])
def rMd_run : Room := { frames := 5, cells := 0, slots := 0, locals := 119 }
theorem kMd_run : cOf yMd_run tMd_run ∈ gT := gT_in 1553 (by decide +kernel) rfl
theorem iMd_run : Cond.initialized yMd_run.cls ∈ gT := gT_in 68 (by decide +kernel) rfl
theorem mMd_run : okM yMd_run 1 := ⟨by decide, by decide, by unfold nPar; decide +kernel⟩
theorem nMd_run : Cond.instanceMethod yMd_run ∈ gT := gT_in 1551 (by decide +kernel) rfl
theorem lMd_run : Cond.selects "MatchPipeModel" yMd_run yMd_run ∈ gT := gT_in 1552 (by decide +kernel) rfl
def fMd_run_108 (k46 : Nat → Int32 → Int32 → Int32 → Sx → Option (Int32 × Sx)) (x0 : Nat) (x1 : Int32) (x2 : Int32) (x3 : Int32) (S : Sx) : Option (Int32 × Sx) :=
    (gI S 12 56 x0).bind fun v1 =>
    (pI S 12 56 x0 (v1 + 1)).bind fun S3 =>
    k46 x0 x1 x2 (x3 + 1) S3
set_option maxRecDepth 100000 in
set_option maxHeartbeats 4000000 in
theorem wMd_run_108 {Γ : vG} (hR : gR Γ = rMd_run) (hl : (gl Γ).flags = pinnedFlags ++ [noTraceFlag]) {X : Int32 × Sx} {k46 : Nat → Int32 → Int32 → Int32 → Sx → Option (Int32 × Sx)} (hk46 : ∀ (x0 : Nat) (x1 : Int32) (x2 : Int32) (x3 : Int32) (S : Sx), k46 x0 x1 x2 x3 S = some X → vV Γ tMd_run (mQ Γ 0 0 0 (some (.int X.1)) X.2) S 0 0 46 [(0, .ref x0), (1, .int x1), (2, .int x2), (3, .int x3)] []) : ∀ (x0 : Nat) (x1 : Int32) (x2 : Int32) (x3 : Int32) (S : Sx), fMd_run_108 k46 x0 x1 x2 x3 S = some X → vV Γ tMd_run (mQ Γ 0 0 0 (some (.int X.1)) X.2) S 0 0 108 [(0, .ref x0), (1, .int x1), (2, .int x2), (3, .int x3)] [] := by
  intro x0 x1 x2 x3 S h
  unfold fMd_run_108 at h
  refine v_aload_n (pc := 108) (show decode (tC tMd_run) 108 = .ok (.aload_n 0, 1) by decide +kernel) 0 rfl rfl ?_
  refine v_dup (pc := 109) (show decode (tC tMd_run) 109 = .ok (.dup, 1) by decide +kernel) rfl ?_
  obtain ⟨v1, e2, h⟩ := ob h
  refine v_getI (pc := 110) oF_Md_238 (by decide) e2 (show decode (tC tMd_run) 110 = .ok (.getfield 238, 3) by decide +kernel) ?_
  refine v_iconst (pc := 113) (v := 1) (show decode (tC tMd_run) 113 = .ok (.iconst 1, 1) by decide +kernel) (by decide) ?_
  refine v_iadd (pc := 114) (show decode (tC tMd_run) 114 = .ok (.iadd, 1) by decide +kernel) ?_
  obtain ⟨S3, e4, h⟩ := ob h
  refine v_putI (pc := 115) oF_Md_238 (fin_ok (kd := 12) (k := 56) (by decide +kernel)) e4 (show decode (tC tMd_run) 115 = .ok (.putfield 238, 3) by decide +kernel) ?_
  refine v_iinc (pc := 118) (j := 3) [(3, .int (x3 + 1)), (0, .ref x0), (1, .int x1), (2, .int x2)] (show decode (tC tMd_run) 118 = .ok (.iinc 3 1, 3) by decide +kernel) rfl rfl (by decide) rfl ?_
  refine v_goto (pc := 121) 46 (show decode (tC tMd_run) 121 = .ok (.goto (-75), 3) by decide +kernel) (by decide) ?_
  refine v_sub [(0, .ref x0), (1, .int x1), (2, .int x2), (3, .int (x3 + 1))] [1, 2, 3, 0] rfl ?_
  exact hk46 x0 x1 x2 (x3 + 1) S3 h
def fMd_run_97 (k46 : Nat → Int32 → Int32 → Int32 → Sx → Option (Int32 × Sx)) (x0 : Nat) (x1 : Int32) (x2 : Int32) (x3 : Int32) (S : Sx) : Option (Int32 × Sx) :=
    (gI S 12 53 x0).bind fun v1 =>
    if v1 ≤ 0 then
    (fMd_run_108 k46 x0 x1 x2 x3 S)
    else
    ((ckd S x0 12).bind fun _ =>
    (fMd_doFirst x0 S).bind fun S5 =>
    fMd_run_108 k46 x0 x1 x2 x3 S5)
set_option maxRecDepth 100000 in
set_option maxHeartbeats 4000000 in
theorem wMd_run_97 {Γ : vG} (hR : gR Γ = rMd_run) (hl : (gl Γ).flags = pinnedFlags ++ [noTraceFlag]) {X : Int32 × Sx} {k46 : Nat → Int32 → Int32 → Int32 → Sx → Option (Int32 × Sx)} (hk46 : ∀ (x0 : Nat) (x1 : Int32) (x2 : Int32) (x3 : Int32) (S : Sx), k46 x0 x1 x2 x3 S = some X → vV Γ tMd_run (mQ Γ 0 0 0 (some (.int X.1)) X.2) S 0 0 46 [(0, .ref x0), (1, .int x1), (2, .int x2), (3, .int x3)] []) : ∀ (x0 : Nat) (x1 : Int32) (x2 : Int32) (x3 : Int32) (S : Sx), fMd_run_97 k46 x0 x1 x2 x3 S = some X → vV Γ tMd_run (mQ Γ 0 0 0 (some (.int X.1)) X.2) S 0 0 97 [(0, .ref x0), (1, .int x1), (2, .int x2), (3, .int x3)] [] := by
  intro x0 x1 x2 x3 S h
  unfold fMd_run_97 at h
  refine v_aload_n (pc := 97) (show decode (tC tMd_run) 97 = .ok (.aload_n 0, 1) by decide +kernel) 0 rfl rfl ?_
  obtain ⟨v1, e2, h⟩ := ob h
  refine v_getI (pc := 98) oF_Md_229 (by decide) e2 (show decode (tC tMd_run) 98 = .ok (.getfield 229, 3) by decide +kernel) ?_
  refine v_if_le (pc := 101) 108 (show decode (tC tMd_run) 101 = .ok (.ifCond .le 7, 3) by decide +kernel) (by decide) (fun c => ?_) (fun c => ?_)
  · replace h := ite_t c h
    exact wMd_run_108 hR hl hk46 x0 x1 x2 x3 S h
  · replace h := ite_f c h
    refine v_aload_n (pc := 104) (show decode (tC tMd_run) 104 = .ok (.aload_n 0, 1) by decide +kernel) 0 rfl rfl ?_
    obtain ⟨_, e4, h⟩ := ob h
    obtain ⟨S5, e3, h⟩ := ob h
    refine v_call (pc := 105) (v := none) (y := yMd_doFirst) (θ' := tMd_doFirst) (rm := rMd_doFirst) (av := [.ref x0]) (st := []) (cMd_doFirst (l := gl Γ) hl e3) kMd_doFirst iMd_doFirst (iv_virt (y := yMd_doFirst) (θ' := tMd_doFirst) (kd := 12) (As := []) rfl (ckd_of e4) kMd_doFirst (gT_in 1554 (by decide +kernel) rfl) nMd_doFirst lMd_doFirst mMd_doFirst rfl (show decode (tC tMd_run) 105 = .ok (.invokevirtual 355, 3) by decide +kernel)) ⟨by rw [hR]; decide, by rw [hR]; decide, by rw [hR]; decide, by rw [hR]; decide⟩ (Nat.le_of_ble_eq_true rfl) ?_
    exact wMd_run_108 hR hl hk46 x0 x1 x2 x3 S5 h
def fMd_run_46  : Nat → Nat → Int32 → Int32 → Int32 → Sx → Option (Int32 × Sx)
  | 0, _, _, _, _, _ => none
  | n + 1, x0, x1, x2, x3, S =>
    if x1 ≤ x3 then
    ((gI S 12 55 x0).bind fun v1 =>
    some (v1 - x2, S))
    else
    ((gI S 12 55 x0).bind fun v3 =>
    (gI S 12 54 x0).bind fun v5 =>
    if v5 ≤ v3 then
    (fMd_run_97 (fun y0 y1 y2 y3 T => fMd_run_46 n y0 y1 y2 y3 T) x0 x1 x2 x3 S)
    else
    ((gX S 12 71 x0).bind fun v7 =>
    (gI S 12 55 x0).bind fun v9 =>
    (aI S v7 (v9 - v9 / 128 * 128)).bind fun v12 =>
    (gI S 12 6 x0).bind fun v14 =>
    (gI S 12 56 x0).bind fun v16 =>
    if (v12 + v14) = v16 then
    ((gI S 12 55 x0).bind fun v18 =>
    (pI S 12 55 x0 (v18 + 1)).bind fun S20 =>
    fMd_run_97 (fun y0 y1 y2 y3 T => fMd_run_46 n y0 y1 y2 y3 T) x0 x1 x2 x3 S20)
    else
    (fMd_run_97 (fun y0 y1 y2 y3 T => fMd_run_46 n y0 y1 y2 y3 T) x0 x1 x2 x3 S)))
set_option maxRecDepth 100000 in
set_option maxHeartbeats 4000000 in
theorem wMd_run_46 {Γ : vG} (hR : gR Γ = rMd_run) (hl : (gl Γ).flags = pinnedFlags ++ [noTraceFlag]) {X : Int32 × Sx}  : ∀ (n : Nat) (x0 : Nat) (x1 : Int32) (x2 : Int32) (x3 : Int32) (S : Sx), fMd_run_46  n x0 x1 x2 x3 S = some X → vV Γ tMd_run (mQ Γ 0 0 0 (some (.int X.1)) X.2) S 0 0 46 [(0, .ref x0), (1, .int x1), (2, .int x2), (3, .int x3)] [] := by
  intro n
  induction n with
  | zero => intro x0 x1 x2 x3 S h; rw [fMd_run_46] at h; cases h
  | succ n ih =>
    intro x0 x1 x2 x3 S h
    rw [fMd_run_46] at h
    refine v_iload_n (pc := 46) (show decode (tC tMd_run) 46 = .ok (.iload_n 3, 1) by decide +kernel) 3 rfl rfl ?_
    refine v_iload_n (pc := 47) (show decode (tC tMd_run) 47 = .ok (.iload_n 1, 1) by decide +kernel) 1 rfl rfl ?_
    refine v_icmp_ge (pc := 48) 124 (show decode (tC tMd_run) 48 = .ok (.if_icmp .ge 76, 3) by decide +kernel) (by decide) (fun c => ?_) (fun c => ?_)
    · replace h := ite_t c h
      refine v_aload_n (pc := 124) (show decode (tC tMd_run) 124 = .ok (.aload_n 0, 1) by decide +kernel) 0 rfl rfl ?_
      obtain ⟨v1, e2, h⟩ := ob h
      refine v_getI (pc := 125) oF_Md_235 (by decide) e2 (show decode (tC tMd_run) 125 = .ok (.getfield 235, 3) by decide +kernel) ?_
      refine v_iload_n (pc := 128) (show decode (tC tMd_run) 128 = .ok (.iload_n 2, 1) by decide +kernel) 2 rfl rfl ?_
      refine v_isub (pc := 129) (show decode (tC tMd_run) 129 = .ok (.isub, 1) by decide +kernel) ?_
      obtain rfl := Option.some.inj h
      refine v_wide (ce2 := 0) (sl2 := 0) (by decide) (by decide) ?_
      exact v_iret (pc := 130) rfl (show decode (tC tMd_run) 130 = .ok (.ireturn, 1) by decide +kernel)
    · replace h := ite_f c h
      refine v_aload_n (pc := 51) (show decode (tC tMd_run) 51 = .ok (.aload_n 0, 1) by decide +kernel) 0 rfl rfl ?_
      obtain ⟨v3, e4, h⟩ := ob h
      refine v_getI (pc := 52) oF_Md_235 (by decide) e4 (show decode (tC tMd_run) 52 = .ok (.getfield 235, 3) by decide +kernel) ?_
      refine v_aload_n (pc := 55) (show decode (tC tMd_run) 55 = .ok (.aload_n 0, 1) by decide +kernel) 0 rfl rfl ?_
      obtain ⟨v5, e6, h⟩ := ob h
      refine v_getI (pc := 56) oF_Md_232 (by decide) e6 (show decode (tC tMd_run) 56 = .ok (.getfield 232, 3) by decide +kernel) ?_
      refine v_icmp_ge (pc := 59) 97 (show decode (tC tMd_run) 59 = .ok (.if_icmp .ge 38, 3) by decide +kernel) (by decide) (fun c => ?_) (fun c => ?_)
      · replace h := ite_t c h
        exact wMd_run_97 hR hl (fun y0 y1 y2 y3 T h => ih y0 y1 y2 y3 T h) x0 x1 x2 x3 S h
      · replace h := ite_f c h
        refine v_aload_n (pc := 62) (show decode (tC tMd_run) 62 = .ok (.aload_n 0, 1) by decide +kernel) 0 rfl rfl ?_
        obtain ⟨v7, e8, h⟩ := ob h
        refine v_getX (pc := 63) oF_Md_167 e8 (show decode (tC tMd_run) 63 = .ok (.getfield 167, 3) by decide +kernel) ?_
        refine v_aload_n (pc := 66) (show decode (tC tMd_run) 66 = .ok (.aload_n 0, 1) by decide +kernel) 0 rfl rfl ?_
        obtain ⟨v9, e10, h⟩ := ob h
        refine v_getI (pc := 67) oF_Md_235 (by decide) e10 (show decode (tC tMd_run) 67 = .ok (.getfield 235, 3) by decide +kernel) ?_
        refine v_sipush (pc := 70) (v := 128) (show decode (tC tMd_run) 70 = .ok (.sipush 128, 3) by decide +kernel) (by decide) ?_
        refine v_irem (pc := 73) (show decode (tC tMd_run) 73 = .ok (.irem, 1) by decide +kernel) (by decide) ?_
        obtain ⟨v12, e13, h⟩ := ob h
        refine v_iald (pc := 74) e13 (show decode (tC tMd_run) 74 = .ok (.iaload, 1) by decide +kernel) ?_
        refine v_aload_n (pc := 75) (show decode (tC tMd_run) 75 = .ok (.aload_n 0, 1) by decide +kernel) 0 rfl rfl ?_
        obtain ⟨v14, e15, h⟩ := ob h
        refine v_getI (pc := 76) oF_Md_201 (by decide) e15 (show decode (tC tMd_run) 76 = .ok (.getfield 201, 3) by decide +kernel) ?_
        refine v_iadd (pc := 79) (show decode (tC tMd_run) 79 = .ok (.iadd, 1) by decide +kernel) ?_
        refine v_aload_n (pc := 80) (show decode (tC tMd_run) 80 = .ok (.aload_n 0, 1) by decide +kernel) 0 rfl rfl ?_
        obtain ⟨v16, e17, h⟩ := ob h
        refine v_getI (pc := 81) oF_Md_238 (by decide) e17 (show decode (tC tMd_run) 81 = .ok (.getfield 238, 3) by decide +kernel) ?_
        refine v_icmp_ne (pc := 84) 97 (show decode (tC tMd_run) 84 = .ok (.if_icmp .ne 13, 3) by decide +kernel) (by decide) (fun c => ?_) (fun c => ?_)
        · replace h := ite_f c h
          exact wMd_run_97 hR hl (fun y0 y1 y2 y3 T h => ih y0 y1 y2 y3 T h) x0 x1 x2 x3 S h
        · replace h := ite_t c h
          refine v_aload_n (pc := 87) (show decode (tC tMd_run) 87 = .ok (.aload_n 0, 1) by decide +kernel) 0 rfl rfl ?_
          refine v_dup (pc := 88) (show decode (tC tMd_run) 88 = .ok (.dup, 1) by decide +kernel) rfl ?_
          obtain ⟨v18, e19, h⟩ := ob h
          refine v_getI (pc := 89) oF_Md_235 (by decide) e19 (show decode (tC tMd_run) 89 = .ok (.getfield 235, 3) by decide +kernel) ?_
          refine v_iconst (pc := 92) (v := 1) (show decode (tC tMd_run) 92 = .ok (.iconst 1, 1) by decide +kernel) (by decide) ?_
          refine v_iadd (pc := 93) (show decode (tC tMd_run) 93 = .ok (.iadd, 1) by decide +kernel) ?_
          obtain ⟨S20, e21, h⟩ := ob h
          refine v_putI (pc := 94) oF_Md_235 (fin_ok (kd := 12) (k := 55) (by decide +kernel)) e21 (show decode (tC tMd_run) 94 = .ok (.putfield 235, 3) by decide +kernel) ?_
          exact wMd_run_97 hR hl (fun y0 y1 y2 y3 T h => ih y0 y1 y2 y3 T h) x0 x1 x2 x3 S20 h
def fMd_run_27  (x0 : Nat) (x1 : Int32) (z0 : Int32) (z1 : Nat) (S : Sx) : Option (Int32 × Sx) :=
    (pI S 12 0 z1 z0).bind fun S1 =>
    (gI S1 12 0 x0).bind fun v3 =>
    if v3 ≤ 0 then
    ((gI S1 12 55 x0).bind fun v5 =>
    fMd_run_46  fuel x0 x1 v5 0 S1)
    else
    (some (0, S1))
set_option maxRecDepth 100000 in
set_option maxHeartbeats 4000000 in
theorem wMd_run_27 {Γ : vG} (hR : gR Γ = rMd_run) (hl : (gl Γ).flags = pinnedFlags ++ [noTraceFlag]) {X : Int32 × Sx}  : ∀ (x0 : Nat) (x1 : Int32) (z0 : Int32) (z1 : Nat) (S : Sx), fMd_run_27  x0 x1 z0 z1 S = some X → vV Γ tMd_run (mQ Γ 0 0 0 (some (.int X.1)) X.2) S 0 0 27 [(0, .ref x0), (1, .int x1)] [.int z0, .ref z1] := by
  intro x0 x1 z0 z1 S h
  unfold fMd_run_27 at h
  obtain ⟨S1, e2, h⟩ := ob h
  refine v_putI (pc := 27) oF_Md_183 (fin_ok (kd := 12) (k := 0) (by decide +kernel)) e2 (show decode (tC tMd_run) 27 = .ok (.putfield 183, 3) by decide +kernel) ?_
  refine v_aload_n (pc := 30) (show decode (tC tMd_run) 30 = .ok (.aload_n 0, 1) by decide +kernel) 0 rfl rfl ?_
  obtain ⟨v3, e4, h⟩ := ob h
  refine v_getI (pc := 31) oF_Md_183 (by decide) e4 (show decode (tC tMd_run) 31 = .ok (.getfield 183, 3) by decide +kernel) ?_
  refine v_if_le (pc := 34) 39 (show decode (tC tMd_run) 34 = .ok (.ifCond .le 5, 3) by decide +kernel) (by decide) (fun c => ?_) (fun c => ?_)
  · replace h := ite_t c h
    refine v_aload_n (pc := 39) (show decode (tC tMd_run) 39 = .ok (.aload_n 0, 1) by decide +kernel) 0 rfl rfl ?_
    obtain ⟨v5, e6, h⟩ := ob h
    refine v_getI (pc := 40) oF_Md_235 (by decide) e6 (show decode (tC tMd_run) 40 = .ok (.getfield 235, 3) by decide +kernel) ?_
    refine v_istore_n (pc := 43) [(2, .int v5), (0, .ref x0), (1, .int x1)] (show decode (tC tMd_run) 43 = .ok (.istore_n 2, 1) by decide +kernel) rfl (by decide) rfl ?_
    refine v_iconst (pc := 44) (v := 0) (show decode (tC tMd_run) 44 = .ok (.iconst 0, 1) by decide +kernel) (by decide) ?_
    refine v_istore_n (pc := 45) [(3, .int 0), (2, .int v5), (0, .ref x0), (1, .int x1)] (show decode (tC tMd_run) 45 = .ok (.istore_n 3, 1) by decide +kernel) rfl (by decide) rfl ?_
    refine v_sub [(0, .ref x0), (1, .int x1), (2, .int v5), (3, .int 0)] [2, 3, 1, 0] rfl ?_
    exact wMd_run_46 hR hl  fuel x0 x1 v5 0 S1 h
  · replace h := ite_f c h
    refine v_iconst (pc := 37) (v := 0) (show decode (tC tMd_run) 37 = .ok (.iconst 0, 1) by decide +kernel) (by decide) ?_
    obtain rfl := Option.some.inj h
    refine v_wide (ce2 := 0) (sl2 := 0) (by decide) (by decide) ?_
    exact v_iret (pc := 38) rfl (show decode (tC tMd_run) 38 = .ok (.ireturn, 1) by decide +kernel)
def fMd_run_22  (x0 : Nat) (x1 : Int32) (z0 : Nat) (S : Sx) : Option (Int32 × Sx) :=
    fMd_run_27  x0 x1 2 z0 S
set_option maxRecDepth 100000 in
set_option maxHeartbeats 4000000 in
theorem wMd_run_22 {Γ : vG} (hR : gR Γ = rMd_run) (hl : (gl Γ).flags = pinnedFlags ++ [noTraceFlag]) {X : Int32 × Sx}  : ∀ (x0 : Nat) (x1 : Int32) (z0 : Nat) (S : Sx), fMd_run_22  x0 x1 z0 S = some X → vV Γ tMd_run (mQ Γ 0 0 0 (some (.int X.1)) X.2) S 0 0 22 [(0, .ref x0), (1, .int x1)] [.ref z0] := by
  intro x0 x1 z0 S h
  unfold fMd_run_22 at h
  refine v_iconst (pc := 22) (v := 2) (show decode (tC tMd_run) 22 = .ok (.iconst 2, 1) by decide +kernel) (by decide) ?_
  refine v_goto (pc := 23) 27 (show decode (tC tMd_run) 23 = .ok (.goto 4, 3) by decide +kernel) (by decide) ?_
  exact wMd_run_27 hR hl  x0 x1 2 z0 S h
def fMd_run (x0 : Nat) (x1 : Int32) (S : Sx) : Option (Int32 × Sx) :=
    (gI S 12 7 x0).bind fun v1 =>
    if v1 = 0 then
    (fMd_run_27  x0 x1 1 x0 S)
    else
    (if x1 < 0 then
    (fMd_run_22  x0 x1 x0 S)
    else
    (if x1 ≤ 100 then
    (fMd_run_27  x0 x1 0 x0 S)
    else
    (fMd_run_22  x0 x1 x0 S)))
set_option maxRecDepth 100000 in
set_option maxHeartbeats 4000000 in
theorem wMd_run {Γ : vG} (hR : gR Γ = rMd_run) (hl : (gl Γ).flags = pinnedFlags ++ [noTraceFlag]) (x0 : Nat) (x1 : Int32) (S : Sx) {X : Int32 × Sx} (h : fMd_run x0 x1 S = some X) : vV Γ tMd_run (mQ Γ 0 0 0 (some (.int X.1)) X.2) S 0 0 0 [(0, .ref x0), (1, .int x1)] [] := by
  unfold fMd_run at h
  refine v_aload_n (pc := 0) (show decode (tC tMd_run) 0 = .ok (.aload_n 0, 1) by decide +kernel) 0 rfl rfl ?_
  refine v_aload_n (pc := 1) (show decode (tC tMd_run) 1 = .ok (.aload_n 0, 1) by decide +kernel) 0 rfl rfl ?_
  obtain ⟨v1, e2, h⟩ := ob h
  refine v_getI (pc := 2) oF_Md_204 (by decide) e2 (show decode (tC tMd_run) 2 = .ok (.getfield 204, 3) by decide +kernel) ?_
  refine v_if_ne (pc := 5) 12 (show decode (tC tMd_run) 5 = .ok (.ifCond .ne 7, 3) by decide +kernel) (by decide) (fun c => ?_) (fun c => ?_)
  · replace h := ite_f c h
    refine v_iload_n (pc := 12) (show decode (tC tMd_run) 12 = .ok (.iload_n 1, 1) by decide +kernel) 1 rfl rfl ?_
    refine v_if_lt (pc := 13) 22 (show decode (tC tMd_run) 13 = .ok (.ifCond .lt 9, 3) by decide +kernel) (by decide) (fun c => ?_) (fun c => ?_)
    · replace h := ite_t c h
      exact wMd_run_22 hR hl  x0 x1 x0 S h
    · replace h := ite_f c h
      refine v_iload_n (pc := 16) (show decode (tC tMd_run) 16 = .ok (.iload_n 1, 1) by decide +kernel) 1 rfl rfl ?_
      refine v_bipush (pc := 17) (v := 100) (show decode (tC tMd_run) 17 = .ok (.bipush 100, 2) by decide +kernel) (by decide) ?_
      refine v_icmp_le (pc := 19) 26 (show decode (tC tMd_run) 19 = .ok (.if_icmp .le 7, 3) by decide +kernel) (by decide) (fun c => ?_) (fun c => ?_)
      · replace h := ite_t c h
        refine v_iconst (pc := 26) (v := 0) (show decode (tC tMd_run) 26 = .ok (.iconst 0, 1) by decide +kernel) (by decide) ?_
        exact wMd_run_27 hR hl  x0 x1 0 x0 S h
      · replace h := ite_f c h
        exact wMd_run_22 hR hl  x0 x1 x0 S h
  · replace h := ite_t c h
    refine v_iconst (pc := 8) (v := 1) (show decode (tC tMd_run) 8 = .ok (.iconst 1, 1) by decide +kernel) (by decide) ?_
    refine v_goto (pc := 9) 27 (show decode (tC tMd_run) 9 = .ok (.goto 18, 3) by decide +kernel) (by decide) ?_
    exact wMd_run_27 hR hl  x0 x1 1 x0 S h
theorem cMd_run {l : Launch} (hl : l.flags = pinnedFlags ++ [noTraceFlag]) {D : va_G} {dA : Nat → ClassId} {B : Nat} {x0 : Nat} {x1 : Int32} {S : Sx} {X : Int32 × Sx} (h : fMd_run x0 x1 S = some X) : Mx l yMd_run tMd_run rMd_run 0 0 D dA B S [.ref x0, .int x1] 0 (some (.int X.1)) X.2 :=
  mx_of hl (by decide) rfl rfl (Nat.le_of_ble_eq_true rfl) (fun Γ e1 e2 e3 e4 e5 => by subst e1; subst e3; subst e4; subst e5; exact wMd_run e2 hl x0 x1 S h)
/-! MatchPipeModel.isOut(I)Z -/
def yMd_isOut : MethodName := ⟨"MatchPipeModel", "isOut", "(I)Z"⟩
def tMd_isOut : tM := (prog_14_method_54_code, "MatchPipeModel", 2, "isOut", some .boolean, [])
def rMd_isOut : Room := { frames := 0, cells := 0, slots := 0, locals := 0 }
theorem kMd_isOut : cOf yMd_isOut tMd_isOut ∈ gT := gT_in 1637 (by decide +kernel) rfl
theorem iMd_isOut : Cond.initialized yMd_isOut.cls ∈ gT := gT_in 68 (by decide +kernel) rfl
theorem mMd_isOut : okM yMd_isOut 1 := ⟨by decide, by decide, by unfold nPar; decide +kernel⟩
theorem nMd_isOut : Cond.instanceMethod yMd_isOut ∈ gT := gT_in 1636 (by decide +kernel) rfl
theorem lMd_isOut : Cond.selects "MatchPipeModel" yMd_isOut yMd_isOut ∈ gT := gT_in 53 (by decide +kernel) rfl
def fMd_isOut (x0 : Nat) (x1 : Int32) (S : Sx) : Option (Int32 × Sx) :=
    if x1 < 0 then
    (some (0, S))
    else
    ((gI S 12 55 x0).bind fun v1 =>
    if v1 ≤ x1 then
    (some (0, S))
    else
    ((gI S 12 55 x0).bind fun v3 =>
    if x1 < (v3 - 64) then
    (some (0, S))
    else
    (some (1, S))))
set_option maxRecDepth 100000 in
set_option maxHeartbeats 4000000 in
theorem wMd_isOut {Γ : vG} (hR : gR Γ = rMd_isOut) (hl : (gl Γ).flags = pinnedFlags ++ [noTraceFlag]) (x0 : Nat) (x1 : Int32) (S : Sx) {X : Int32 × Sx} (h : fMd_isOut x0 x1 S = some X) : vV Γ tMd_isOut (mQ Γ 0 0 0 (some (.int X.1)) X.2) S 0 0 0 [(0, .ref x0), (1, .int x1)] [] := by
  unfold fMd_isOut at h
  refine v_iload_n (pc := 0) (show decode (tC tMd_isOut) 0 = .ok (.iload_n 1, 1) by decide +kernel) 1 rfl rfl ?_
  refine v_if_lt (pc := 1) 27 (show decode (tC tMd_isOut) 1 = .ok (.ifCond .lt 26, 3) by decide +kernel) (by decide) (fun c => ?_) (fun c => ?_)
  · replace h := ite_t c h
    refine v_iconst (pc := 27) (v := 0) (show decode (tC tMd_isOut) 27 = .ok (.iconst 0, 1) by decide +kernel) (by decide) ?_
    obtain rfl := Option.some.inj h
    refine v_wide (ce2 := 0) (sl2 := 0) (by decide) (by decide) ?_
    exact v_zret (pc := 28) rfl (Or.inl rfl) (show decode (tC tMd_isOut) 28 = .ok (.ireturn, 1) by decide +kernel)
  · replace h := ite_f c h
    refine v_iload_n (pc := 4) (show decode (tC tMd_isOut) 4 = .ok (.iload_n 1, 1) by decide +kernel) 1 rfl rfl ?_
    refine v_aload_n (pc := 5) (show decode (tC tMd_isOut) 5 = .ok (.aload_n 0, 1) by decide +kernel) 0 rfl rfl ?_
    obtain ⟨v1, e2, h⟩ := ob h
    refine v_getI (pc := 6) oF_Md_235 (by decide) e2 (show decode (tC tMd_isOut) 6 = .ok (.getfield 235, 3) by decide +kernel) ?_
    refine v_icmp_ge (pc := 9) 27 (show decode (tC tMd_isOut) 9 = .ok (.if_icmp .ge 18, 3) by decide +kernel) (by decide) (fun c => ?_) (fun c => ?_)
    · replace h := ite_t c h
      refine v_iconst (pc := 27) (v := 0) (show decode (tC tMd_isOut) 27 = .ok (.iconst 0, 1) by decide +kernel) (by decide) ?_
      obtain rfl := Option.some.inj h
      refine v_wide (ce2 := 0) (sl2 := 0) (by decide) (by decide) ?_
      exact v_zret (pc := 28) rfl (Or.inl rfl) (show decode (tC tMd_isOut) 28 = .ok (.ireturn, 1) by decide +kernel)
    · replace h := ite_f c h
      refine v_iload_n (pc := 12) (show decode (tC tMd_isOut) 12 = .ok (.iload_n 1, 1) by decide +kernel) 1 rfl rfl ?_
      refine v_aload_n (pc := 13) (show decode (tC tMd_isOut) 13 = .ok (.aload_n 0, 1) by decide +kernel) 0 rfl rfl ?_
      obtain ⟨v3, e4, h⟩ := ob h
      refine v_getI (pc := 14) oF_Md_235 (by decide) e4 (show decode (tC tMd_isOut) 14 = .ok (.getfield 235, 3) by decide +kernel) ?_
      refine v_bipush (pc := 17) (v := 64) (show decode (tC tMd_isOut) 17 = .ok (.bipush 64, 2) by decide +kernel) (by decide) ?_
      refine v_isub (pc := 19) (show decode (tC tMd_isOut) 19 = .ok (.isub, 1) by decide +kernel) ?_
      refine v_icmp_lt (pc := 20) 27 (show decode (tC tMd_isOut) 20 = .ok (.if_icmp .lt 7, 3) by decide +kernel) (by decide) (fun c => ?_) (fun c => ?_)
      · replace h := ite_t c h
        refine v_iconst (pc := 27) (v := 0) (show decode (tC tMd_isOut) 27 = .ok (.iconst 0, 1) by decide +kernel) (by decide) ?_
        obtain rfl := Option.some.inj h
        refine v_wide (ce2 := 0) (sl2 := 0) (by decide) (by decide) ?_
        exact v_zret (pc := 28) rfl (Or.inl rfl) (show decode (tC tMd_isOut) 28 = .ok (.ireturn, 1) by decide +kernel)
      · replace h := ite_f c h
        refine v_iconst (pc := 23) (v := 1) (show decode (tC tMd_isOut) 23 = .ok (.iconst 1, 1) by decide +kernel) (by decide) ?_
        refine v_goto (pc := 24) 28 (show decode (tC tMd_isOut) 24 = .ok (.goto 4, 3) by decide +kernel) (by decide) ?_
        obtain rfl := Option.some.inj h
        refine v_wide (ce2 := 0) (sl2 := 0) (by decide) (by decide) ?_
        exact v_zret (pc := 28) rfl (Or.inr rfl) (show decode (tC tMd_isOut) 28 = .ok (.ireturn, 1) by decide +kernel)
theorem cMd_isOut {l : Launch} (hl : l.flags = pinnedFlags ++ [noTraceFlag]) {D : va_G} {dA : Nat → ClassId} {B : Nat} {x0 : Nat} {x1 : Int32} {S : Sx} {X : Int32 × Sx} (h : fMd_isOut x0 x1 S = some X) : Mx l yMd_isOut tMd_isOut rMd_isOut 0 0 D dA B S [.ref x0, .int x1] 0 (some (.int X.1)) X.2 :=
  mx_of hl (by decide) rfl rfl (Nat.le_of_ble_eq_true rfl) (fun Γ e1 e2 e3 e4 e5 => by subst e1; subst e3; subst e4; subst e5; exact wMd_isOut e2 hl x0 x1 S h)
/-! MatchPipeModel.out(II)I -/
def yMd_out : MethodName := ⟨"MatchPipeModel", "out", "(II)I"⟩
def tMd_out : tM := (prog_14_method_55_code, "MatchPipeModel", 4, "out", some .int, [])
def rMd_out : Room := { frames := 1, cells := 0, slots := 0, locals := 21 }
theorem kMd_out : cOf yMd_out tMd_out ∈ gT := gT_in 1633 (by decide +kernel) rfl
theorem iMd_out : Cond.initialized yMd_out.cls ∈ gT := gT_in 68 (by decide +kernel) rfl
theorem mMd_out : okM yMd_out 2 := ⟨by decide, by decide, by unfold nPar; decide +kernel⟩
theorem nMd_out : Cond.instanceMethod yMd_out ∈ gT := gT_in 1631 (by decide +kernel) rfl
theorem lMd_out : Cond.selects "MatchPipeModel" yMd_out yMd_out ∈ gT := gT_in 1632 (by decide +kernel) rfl
def fMd_out (x0 : Nat) (x1 : Int32) (x2 : Int32) (S : Sx) : Option (Int32 × Sx) :=
    (pI S 12 0 x0 0).bind fun S1 =>
    (ckd S1 x0 12).bind fun _ =>
    bd2 (fMd_isOut x0 x1 S1) fun r5 S6 =>
    if r5 = 0 then
    (some ((-1), S6))
    else
    (if x2 = 0 then
    ((gX S6 12 66 x0).bind fun v8 =>
    (aI S6 v8 (x1 - x1 / 128 * 128)).bind fun v10 =>
    some (v10, S6))
    else if x2 = 1 then
    ((gX S6 12 67 x0).bind fun v12 =>
    (aI S6 v12 (x1 - x1 / 128 * 128)).bind fun v14 =>
    some (v14, S6))
    else if x2 = 2 then
    ((gX S6 12 68 x0).bind fun v16 =>
    (aI S6 v16 (x1 - x1 / 128 * 128)).bind fun v18 =>
    some (v18, S6))
    else if x2 = 3 then
    ((gX S6 12 69 x0).bind fun v20 =>
    (aI S6 v20 (x1 - x1 / 128 * 128)).bind fun v22 =>
    some (v22, S6))
    else if x2 = 4 then
    ((gX S6 12 71 x0).bind fun v24 =>
    (aI S6 v24 (x1 - x1 / 128 * 128)).bind fun v26 =>
    (gI S6 12 6 x0).bind fun v28 =>
    some (v26 + v28, S6))
    else 
    (some ((-1), S6)))
set_option maxRecDepth 100000 in
set_option maxHeartbeats 4000000 in
theorem wMd_out {Γ : vG} (hR : gR Γ = rMd_out) (hl : (gl Γ).flags = pinnedFlags ++ [noTraceFlag]) (x0 : Nat) (x1 : Int32) (x2 : Int32) (S : Sx) {X : Int32 × Sx} (h : fMd_out x0 x1 x2 S = some X) : vV Γ tMd_out (mQ Γ 0 0 0 (some (.int X.1)) X.2) S 0 0 0 [(0, .ref x0), (1, .int x1), (2, .int x2)] [] := by
  unfold fMd_out at h
  refine v_aload_n (pc := 0) (show decode (tC tMd_out) 0 = .ok (.aload_n 0, 1) by decide +kernel) 0 rfl rfl ?_
  refine v_iconst (pc := 1) (v := 0) (show decode (tC tMd_out) 1 = .ok (.iconst 0, 1) by decide +kernel) (by decide) ?_
  obtain ⟨S1, e2, h⟩ := ob h
  refine v_putI (pc := 2) oF_Md_183 (fin_ok (kd := 12) (k := 0) (by decide +kernel)) e2 (show decode (tC tMd_out) 2 = .ok (.putfield 183, 3) by decide +kernel) ?_
  refine v_aload_n (pc := 5) (show decode (tC tMd_out) 5 = .ok (.aload_n 0, 1) by decide +kernel) 0 rfl rfl ?_
  refine v_iload_n (pc := 6) (show decode (tC tMd_out) 6 = .ok (.iload_n 1, 1) by decide +kernel) 1 rfl rfl ?_
  obtain ⟨_, e4, h⟩ := ob h
  obtain ⟨r5, S6, e3, h⟩ := ob2 h
  refine v_call (pc := 7) (v := (some (.int r5))) (y := yMd_isOut) (θ' := tMd_isOut) (rm := rMd_isOut) (av := [.ref x0, .int x1]) (st := []) (cMd_isOut (l := gl Γ) hl e3) kMd_isOut iMd_isOut (iv_virt (y := yMd_isOut) (θ' := tMd_isOut) (kd := 12) (As := [.int x1]) rfl (ckd_of e4) kMd_isOut (gT_in 1634 (by decide +kernel) rfl) nMd_isOut lMd_isOut mMd_isOut rfl (show decode (tC tMd_out) 7 = .ok (.invokevirtual 358, 3) by decide +kernel)) ⟨by rw [hR]; decide, by rw [hR]; decide, by rw [hR]; decide, by rw [hR]; decide⟩ (Nat.le_of_ble_eq_true rfl) ?_
  refine v_if_ne (pc := 10) 15 (show decode (tC tMd_out) 10 = .ok (.ifCond .ne 5, 3) by decide +kernel) (by decide) (fun c => ?_) (fun c => ?_)
  · replace h := ite_f c h
    refine v_iload_n (pc := 15) (show decode (tC tMd_out) 15 = .ok (.iload_n 1, 1) by decide +kernel) 1 rfl rfl ?_
    refine v_sipush (pc := 16) (v := 128) (show decode (tC tMd_out) 16 = .ok (.sipush 128, 3) by decide +kernel) (by decide) ?_
    refine v_irem (pc := 19) (show decode (tC tMd_out) 19 = .ok (.irem, 1) by decide +kernel) (by decide) ?_
    refine v_istore_n (pc := 20) [(3, .int (x1 - x1 / 128 * 128)), (0, .ref x0), (1, .int x1), (2, .int x2)] (show decode (tC tMd_out) 20 = .ok (.istore_n 3, 1) by decide +kernel) rfl (by decide) rfl ?_
    refine v_iload_n (pc := 21) (show decode (tC tMd_out) 21 = .ok (.iload_n 2, 1) by decide +kernel) 3 rfl rfl ?_
    by_cases c0 : x2 = 0
    · replace h := ite_t c0 h
      refine v_tblIn (pc := 22) (off := 34) 56 (show decode (tC tMd_out) 22 = .ok (.tableswitch 74 0 4 #[34, 41, 48, 55, 62], 34) by decide +kernel) (by rw [c0]; decide) (by rw [c0]; decide) (by rw [c0]; decide) (by decide) ?_
      refine v_aload_n (pc := 56) (show decode (tC tMd_out) 56 = .ok (.aload_n 0, 1) by decide +kernel) 1 rfl rfl ?_
      obtain ⟨v8, e9, h⟩ := ob h
      refine v_getX (pc := 57) oF_Md_152 e9 (show decode (tC tMd_out) 57 = .ok (.getfield 152, 3) by decide +kernel) ?_
      refine v_iload_n (pc := 60) (show decode (tC tMd_out) 60 = .ok (.iload_n 3, 1) by decide +kernel) 0 rfl rfl ?_
      obtain ⟨v10, e11, h⟩ := ob h
      refine v_iald (pc := 61) e11 (show decode (tC tMd_out) 61 = .ok (.iaload, 1) by decide +kernel) ?_
      obtain rfl := Option.some.inj h
      refine v_wide (ce2 := 0) (sl2 := 0) (by decide) (by decide) ?_
      exact v_iret (pc := 62) rfl (show decode (tC tMd_out) 62 = .ok (.ireturn, 1) by decide +kernel)
    · replace h := ite_f c0 h
      by_cases c1 : x2 = 1
      · replace h := ite_t c1 h
        refine v_tblIn (pc := 22) (off := 41) 63 (show decode (tC tMd_out) 22 = .ok (.tableswitch 74 0 4 #[34, 41, 48, 55, 62], 34) by decide +kernel) (by rw [c1]; decide) (by rw [c1]; decide) (by rw [c1]; decide) (by decide) ?_
        refine v_aload_n (pc := 63) (show decode (tC tMd_out) 63 = .ok (.aload_n 0, 1) by decide +kernel) 1 rfl rfl ?_
        obtain ⟨v12, e13, h⟩ := ob h
        refine v_getX (pc := 64) oF_Md_155 e13 (show decode (tC tMd_out) 64 = .ok (.getfield 155, 3) by decide +kernel) ?_
        refine v_iload_n (pc := 67) (show decode (tC tMd_out) 67 = .ok (.iload_n 3, 1) by decide +kernel) 0 rfl rfl ?_
        obtain ⟨v14, e15, h⟩ := ob h
        refine v_iald (pc := 68) e15 (show decode (tC tMd_out) 68 = .ok (.iaload, 1) by decide +kernel) ?_
        obtain rfl := Option.some.inj h
        refine v_wide (ce2 := 0) (sl2 := 0) (by decide) (by decide) ?_
        exact v_iret (pc := 69) rfl (show decode (tC tMd_out) 69 = .ok (.ireturn, 1) by decide +kernel)
      · replace h := ite_f c1 h
        by_cases c2 : x2 = 2
        · replace h := ite_t c2 h
          refine v_tblIn (pc := 22) (off := 48) 70 (show decode (tC tMd_out) 22 = .ok (.tableswitch 74 0 4 #[34, 41, 48, 55, 62], 34) by decide +kernel) (by rw [c2]; decide) (by rw [c2]; decide) (by rw [c2]; decide) (by decide) ?_
          refine v_aload_n (pc := 70) (show decode (tC tMd_out) 70 = .ok (.aload_n 0, 1) by decide +kernel) 1 rfl rfl ?_
          obtain ⟨v16, e17, h⟩ := ob h
          refine v_getX (pc := 71) oF_Md_158 e17 (show decode (tC tMd_out) 71 = .ok (.getfield 158, 3) by decide +kernel) ?_
          refine v_iload_n (pc := 74) (show decode (tC tMd_out) 74 = .ok (.iload_n 3, 1) by decide +kernel) 0 rfl rfl ?_
          obtain ⟨v18, e19, h⟩ := ob h
          refine v_iald (pc := 75) e19 (show decode (tC tMd_out) 75 = .ok (.iaload, 1) by decide +kernel) ?_
          obtain rfl := Option.some.inj h
          refine v_wide (ce2 := 0) (sl2 := 0) (by decide) (by decide) ?_
          exact v_iret (pc := 76) rfl (show decode (tC tMd_out) 76 = .ok (.ireturn, 1) by decide +kernel)
        · replace h := ite_f c2 h
          by_cases c3 : x2 = 3
          · replace h := ite_t c3 h
            refine v_tblIn (pc := 22) (off := 55) 77 (show decode (tC tMd_out) 22 = .ok (.tableswitch 74 0 4 #[34, 41, 48, 55, 62], 34) by decide +kernel) (by rw [c3]; decide) (by rw [c3]; decide) (by rw [c3]; decide) (by decide) ?_
            refine v_aload_n (pc := 77) (show decode (tC tMd_out) 77 = .ok (.aload_n 0, 1) by decide +kernel) 1 rfl rfl ?_
            obtain ⟨v20, e21, h⟩ := ob h
            refine v_getX (pc := 78) oF_Md_161 e21 (show decode (tC tMd_out) 78 = .ok (.getfield 161, 3) by decide +kernel) ?_
            refine v_iload_n (pc := 81) (show decode (tC tMd_out) 81 = .ok (.iload_n 3, 1) by decide +kernel) 0 rfl rfl ?_
            obtain ⟨v22, e23, h⟩ := ob h
            refine v_iald (pc := 82) e23 (show decode (tC tMd_out) 82 = .ok (.iaload, 1) by decide +kernel) ?_
            obtain rfl := Option.some.inj h
            refine v_wide (ce2 := 0) (sl2 := 0) (by decide) (by decide) ?_
            exact v_iret (pc := 83) rfl (show decode (tC tMd_out) 83 = .ok (.ireturn, 1) by decide +kernel)
          · replace h := ite_f c3 h
            by_cases c4 : x2 = 4
            · replace h := ite_t c4 h
              refine v_tblIn (pc := 22) (off := 62) 84 (show decode (tC tMd_out) 22 = .ok (.tableswitch 74 0 4 #[34, 41, 48, 55, 62], 34) by decide +kernel) (by rw [c4]; decide) (by rw [c4]; decide) (by rw [c4]; decide) (by decide) ?_
              refine v_aload_n (pc := 84) (show decode (tC tMd_out) 84 = .ok (.aload_n 0, 1) by decide +kernel) 1 rfl rfl ?_
              obtain ⟨v24, e25, h⟩ := ob h
              refine v_getX (pc := 85) oF_Md_167 e25 (show decode (tC tMd_out) 85 = .ok (.getfield 167, 3) by decide +kernel) ?_
              refine v_iload_n (pc := 88) (show decode (tC tMd_out) 88 = .ok (.iload_n 3, 1) by decide +kernel) 0 rfl rfl ?_
              obtain ⟨v26, e27, h⟩ := ob h
              refine v_iald (pc := 89) e27 (show decode (tC tMd_out) 89 = .ok (.iaload, 1) by decide +kernel) ?_
              refine v_aload_n (pc := 90) (show decode (tC tMd_out) 90 = .ok (.aload_n 0, 1) by decide +kernel) 1 rfl rfl ?_
              obtain ⟨v28, e29, h⟩ := ob h
              refine v_getI (pc := 91) oF_Md_201 (by decide) e29 (show decode (tC tMd_out) 91 = .ok (.getfield 201, 3) by decide +kernel) ?_
              refine v_iadd (pc := 94) (show decode (tC tMd_out) 94 = .ok (.iadd, 1) by decide +kernel) ?_
              obtain rfl := Option.some.inj h
              refine v_wide (ce2 := 0) (sl2 := 0) (by decide) (by decide) ?_
              exact v_iret (pc := 95) rfl (show decode (tC tMd_out) 95 = .ok (.ireturn, 1) by decide +kernel)
            · replace h := ite_f c4 h
              refine v_tblOut (pc := 22) 96 (show decode (tC tMd_out) 22 = .ok (.tableswitch 74 0 4 #[34, 41, 48, 55, 62], 34) by decide +kernel) (tbl_out 5 (fun i hi => match i, hi with | 0, _ => by have := toInt_ne c0; exact this | 1, _ => by have := toInt_ne c1; exact this | 2, _ => by have := toInt_ne c2; exact this | 3, _ => by have := toInt_ne c3; exact this | 4, _ => by have := toInt_ne c4; exact this | i + 5, hi => absurd hi (by omega)) (by decide)) (by decide) ?_
              refine v_iconst (pc := 96) (v := (-1)) (show decode (tC tMd_out) 96 = .ok (.iconst (-1), 1) by decide +kernel) (by decide) ?_
              obtain rfl := Option.some.inj h
              refine v_wide (ce2 := 0) (sl2 := 0) (by decide) (by decide) ?_
              exact v_iret (pc := 97) rfl (show decode (tC tMd_out) 97 = .ok (.ireturn, 1) by decide +kernel)
  · replace h := ite_t c h
    refine v_iconst (pc := 13) (v := (-1)) (show decode (tC tMd_out) 13 = .ok (.iconst (-1), 1) by decide +kernel) (by decide) ?_
    obtain rfl := Option.some.inj h
    refine v_wide (ce2 := 0) (sl2 := 0) (by decide) (by decide) ?_
    exact v_iret (pc := 14) rfl (show decode (tC tMd_out) 14 = .ok (.ireturn, 1) by decide +kernel)
theorem cMd_out {l : Launch} (hl : l.flags = pinnedFlags ++ [noTraceFlag]) {D : va_G} {dA : Nat → ClassId} {B : Nat} {x0 : Nat} {x1 : Int32} {x2 : Int32} {S : Sx} {X : Int32 × Sx} (h : fMd_out x0 x1 x2 S = some X) : Mx l yMd_out tMd_out rMd_out 0 0 D dA B S [.ref x0, .int x1, .int x2] 0 (some (.int X.1)) X.2 :=
  mx_of hl (by decide) rfl rfl (Nat.le_of_ble_eq_true rfl) (fun Γ e1 e2 e3 e4 e5 => by subst e1; subst e3; subst e4; subst e5; exact wMd_out e2 hl x0 x1 x2 S h)
/-! MatchPipeModel.byteAt(II)I -/
def yMd_byteAt : MethodName := ⟨"MatchPipeModel", "byteAt", "(II)I"⟩
def tMd_byteAt : tM := (prog_14_method_56_code, "MatchPipeModel", 3, "byteAt", some .int, [])
def rMd_byteAt : Room := { frames := 1, cells := 0, slots := 0, locals := 21 }
theorem kMd_byteAt : cOf yMd_byteAt tMd_byteAt ∈ gT := gT_in 1641 (by decide +kernel) rfl
theorem iMd_byteAt : Cond.initialized yMd_byteAt.cls ∈ gT := gT_in 68 (by decide +kernel) rfl
theorem mMd_byteAt : okM yMd_byteAt 2 := ⟨by decide, by decide, by unfold nPar; decide +kernel⟩
theorem nMd_byteAt : Cond.instanceMethod yMd_byteAt ∈ gT := gT_in 1639 (by decide +kernel) rfl
theorem lMd_byteAt : Cond.selects "MatchPipeModel" yMd_byteAt yMd_byteAt ∈ gT := gT_in 1640 (by decide +kernel) rfl
def fMd_byteAt (x0 : Nat) (x1 : Int32) (x2 : Int32) (S : Sx) : Option (Int32 × Sx) :=
    (pI S 12 0 x0 0).bind fun S1 =>
    (ckd S1 x0 12).bind fun _ =>
    bd2 (fMd_isOut x0 x1 S1) fun r5 S6 =>
    if r5 = 0 then
    (some ((-1), S6))
    else
    (if x2 < 0 then
    (some ((-1), S6))
    else
    ((gX S6 12 69 x0).bind fun v7 =>
    (aI S6 v7 (x1 - x1 / 128 * 128)).bind fun v10 =>
    if v10 ≤ x2 then
    (some ((-1), S6))
    else
    ((gX S6 12 70 x0).bind fun v12 =>
    (aI S6 v12 ((60 * (x1 - x1 / 128 * 128)) + x2)).bind fun v15 =>
    some (v15, S6))))
set_option maxRecDepth 100000 in
set_option maxHeartbeats 4000000 in
theorem wMd_byteAt {Γ : vG} (hR : gR Γ = rMd_byteAt) (hl : (gl Γ).flags = pinnedFlags ++ [noTraceFlag]) (x0 : Nat) (x1 : Int32) (x2 : Int32) (S : Sx) {X : Int32 × Sx} (h : fMd_byteAt x0 x1 x2 S = some X) : vV Γ tMd_byteAt (mQ Γ 0 0 0 (some (.int X.1)) X.2) S 0 0 0 [(0, .ref x0), (1, .int x1), (2, .int x2)] [] := by
  unfold fMd_byteAt at h
  refine v_aload_n (pc := 0) (show decode (tC tMd_byteAt) 0 = .ok (.aload_n 0, 1) by decide +kernel) 0 rfl rfl ?_
  refine v_iconst (pc := 1) (v := 0) (show decode (tC tMd_byteAt) 1 = .ok (.iconst 0, 1) by decide +kernel) (by decide) ?_
  obtain ⟨S1, e2, h⟩ := ob h
  refine v_putI (pc := 2) oF_Md_183 (fin_ok (kd := 12) (k := 0) (by decide +kernel)) e2 (show decode (tC tMd_byteAt) 2 = .ok (.putfield 183, 3) by decide +kernel) ?_
  refine v_aload_n (pc := 5) (show decode (tC tMd_byteAt) 5 = .ok (.aload_n 0, 1) by decide +kernel) 0 rfl rfl ?_
  refine v_iload_n (pc := 6) (show decode (tC tMd_byteAt) 6 = .ok (.iload_n 1, 1) by decide +kernel) 1 rfl rfl ?_
  obtain ⟨_, e4, h⟩ := ob h
  obtain ⟨r5, S6, e3, h⟩ := ob2 h
  refine v_call (pc := 7) (v := (some (.int r5))) (y := yMd_isOut) (θ' := tMd_isOut) (rm := rMd_isOut) (av := [.ref x0, .int x1]) (st := []) (cMd_isOut (l := gl Γ) hl e3) kMd_isOut iMd_isOut (iv_virt (y := yMd_isOut) (θ' := tMd_isOut) (kd := 12) (As := [.int x1]) rfl (ckd_of e4) kMd_isOut (gT_in 1634 (by decide +kernel) rfl) nMd_isOut lMd_isOut mMd_isOut rfl (show decode (tC tMd_byteAt) 7 = .ok (.invokevirtual 358, 3) by decide +kernel)) ⟨by rw [hR]; decide, by rw [hR]; decide, by rw [hR]; decide, by rw [hR]; decide⟩ (Nat.le_of_ble_eq_true rfl) ?_
  refine v_if_eq (pc := 10) 49 (show decode (tC tMd_byteAt) 10 = .ok (.ifCond .eq 39, 3) by decide +kernel) (by decide) (fun c => ?_) (fun c => ?_)
  · replace h := ite_t c h
    refine v_iconst (pc := 49) (v := (-1)) (show decode (tC tMd_byteAt) 49 = .ok (.iconst (-1), 1) by decide +kernel) (by decide) ?_
    obtain rfl := Option.some.inj h
    refine v_wide (ce2 := 0) (sl2 := 0) (by decide) (by decide) ?_
    exact v_iret (pc := 50) rfl (show decode (tC tMd_byteAt) 50 = .ok (.ireturn, 1) by decide +kernel)
  · replace h := ite_f c h
    refine v_iload_n (pc := 13) (show decode (tC tMd_byteAt) 13 = .ok (.iload_n 2, 1) by decide +kernel) 2 rfl rfl ?_
    refine v_if_lt (pc := 14) 49 (show decode (tC tMd_byteAt) 14 = .ok (.ifCond .lt 35, 3) by decide +kernel) (by decide) (fun c => ?_) (fun c => ?_)
    · replace h := ite_t c h
      refine v_iconst (pc := 49) (v := (-1)) (show decode (tC tMd_byteAt) 49 = .ok (.iconst (-1), 1) by decide +kernel) (by decide) ?_
      obtain rfl := Option.some.inj h
      refine v_wide (ce2 := 0) (sl2 := 0) (by decide) (by decide) ?_
      exact v_iret (pc := 50) rfl (show decode (tC tMd_byteAt) 50 = .ok (.ireturn, 1) by decide +kernel)
    · replace h := ite_f c h
      refine v_iload_n (pc := 17) (show decode (tC tMd_byteAt) 17 = .ok (.iload_n 2, 1) by decide +kernel) 2 rfl rfl ?_
      refine v_aload_n (pc := 18) (show decode (tC tMd_byteAt) 18 = .ok (.aload_n 0, 1) by decide +kernel) 0 rfl rfl ?_
      obtain ⟨v7, e8, h⟩ := ob h
      refine v_getX (pc := 19) oF_Md_161 e8 (show decode (tC tMd_byteAt) 19 = .ok (.getfield 161, 3) by decide +kernel) ?_
      refine v_iload_n (pc := 22) (show decode (tC tMd_byteAt) 22 = .ok (.iload_n 1, 1) by decide +kernel) 1 rfl rfl ?_
      refine v_sipush (pc := 23) (v := 128) (show decode (tC tMd_byteAt) 23 = .ok (.sipush 128, 3) by decide +kernel) (by decide) ?_
      refine v_irem (pc := 26) (show decode (tC tMd_byteAt) 26 = .ok (.irem, 1) by decide +kernel) (by decide) ?_
      obtain ⟨v10, e11, h⟩ := ob h
      refine v_iald (pc := 27) e11 (show decode (tC tMd_byteAt) 27 = .ok (.iaload, 1) by decide +kernel) ?_
      refine v_icmp_ge (pc := 28) 49 (show decode (tC tMd_byteAt) 28 = .ok (.if_icmp .ge 21, 3) by decide +kernel) (by decide) (fun c => ?_) (fun c => ?_)
      · replace h := ite_t c h
        refine v_iconst (pc := 49) (v := (-1)) (show decode (tC tMd_byteAt) 49 = .ok (.iconst (-1), 1) by decide +kernel) (by decide) ?_
        obtain rfl := Option.some.inj h
        refine v_wide (ce2 := 0) (sl2 := 0) (by decide) (by decide) ?_
        exact v_iret (pc := 50) rfl (show decode (tC tMd_byteAt) 50 = .ok (.ireturn, 1) by decide +kernel)
      · replace h := ite_f c h
        refine v_aload_n (pc := 31) (show decode (tC tMd_byteAt) 31 = .ok (.aload_n 0, 1) by decide +kernel) 0 rfl rfl ?_
        obtain ⟨v12, e13, h⟩ := ob h
        refine v_getX (pc := 32) oF_Md_164 e13 (show decode (tC tMd_byteAt) 32 = .ok (.getfield 164, 3) by decide +kernel) ?_
        refine v_bipush (pc := 35) (v := 60) (show decode (tC tMd_byteAt) 35 = .ok (.bipush 60, 2) by decide +kernel) (by decide) ?_
        refine v_iload_n (pc := 37) (show decode (tC tMd_byteAt) 37 = .ok (.iload_n 1, 1) by decide +kernel) 1 rfl rfl ?_
        refine v_sipush (pc := 38) (v := 128) (show decode (tC tMd_byteAt) 38 = .ok (.sipush 128, 3) by decide +kernel) (by decide) ?_
        refine v_irem (pc := 41) (show decode (tC tMd_byteAt) 41 = .ok (.irem, 1) by decide +kernel) (by decide) ?_
        refine v_imul (pc := 42) (show decode (tC tMd_byteAt) 42 = .ok (.imul, 1) by decide +kernel) ?_
        refine v_iload_n (pc := 43) (show decode (tC tMd_byteAt) 43 = .ok (.iload_n 2, 1) by decide +kernel) 2 rfl rfl ?_
        refine v_iadd (pc := 44) (show decode (tC tMd_byteAt) 44 = .ok (.iadd, 1) by decide +kernel) ?_
        obtain ⟨v15, e16, h⟩ := ob h
        refine v_iald (pc := 45) e16 (show decode (tC tMd_byteAt) 45 = .ok (.iaload, 1) by decide +kernel) ?_
        refine v_goto (pc := 46) 50 (show decode (tC tMd_byteAt) 46 = .ok (.goto 4, 3) by decide +kernel) (by decide) ?_
        obtain rfl := Option.some.inj h
        refine v_wide (ce2 := 0) (sl2 := 0) (by decide) (by decide) ?_
        exact v_iret (pc := 50) rfl (show decode (tC tMd_byteAt) 50 = .ok (.ireturn, 1) by decide +kernel)
theorem cMd_byteAt {l : Launch} (hl : l.flags = pinnedFlags ++ [noTraceFlag]) {D : va_G} {dA : Nat → ClassId} {B : Nat} {x0 : Nat} {x1 : Int32} {x2 : Int32} {S : Sx} {X : Int32 × Sx} (h : fMd_byteAt x0 x1 x2 S = some X) : Mx l yMd_byteAt tMd_byteAt rMd_byteAt 0 0 D dA B S [.ref x0, .int x1, .int x2] 0 (some (.int X.1)) X.2 :=
  mx_of hl (by decide) rfl rfl (Nat.le_of_ble_eq_true rfl) (fun Γ e1 e2 e3 e4 e5 => by subst e1; subst e3; subst e4; subst e5; exact wMd_byteAt e2 hl x0 x1 x2 S h)
/-! MatchPipeModel.word(II)I -/
def yMd_word : MethodName := ⟨"MatchPipeModel", "word", "(II)I"⟩
def tMd_word : tM := (prog_14_method_57_code, "MatchPipeModel", 3, "word", some .int, [])
def rMd_word : Room := { frames := 1, cells := 0, slots := 0, locals := 21 }
theorem kMd_word : cOf yMd_word tMd_word ∈ gT := gT_in 1645 (by decide +kernel) rfl
theorem iMd_word : Cond.initialized yMd_word.cls ∈ gT := gT_in 68 (by decide +kernel) rfl
theorem mMd_word : okM yMd_word 2 := ⟨by decide, by decide, by unfold nPar; decide +kernel⟩
theorem nMd_word : Cond.instanceMethod yMd_word ∈ gT := gT_in 1643 (by decide +kernel) rfl
theorem lMd_word : Cond.selects "MatchPipeModel" yMd_word yMd_word ∈ gT := gT_in 1644 (by decide +kernel) rfl
def fMd_word_17  (x0 : Nat) (x1 : Int32) (x2 : Int32) (z0 : Int32) (z1 : Nat) (S : Sx) : Option (Int32 × Sx) :=
    (pI S 12 0 z1 z0).bind fun S1 =>
    (gI S1 12 0 x0).bind fun v3 =>
    if v3 = 0 then
    (bd2 (fMd_in x1 4 S1) fun r6 S7 =>
    if r6 = 0 then
    (some (0, S7))
    else
    (bd2 (fMd_in x2 16 S7) fun r9 S10 =>
    if r9 = 0 then
    (some (0, S10))
    else
    ((gX S10 12 44 x0).bind fun v11 =>
    (aI S10 v11 ((16 * x1) + x2)).bind fun v13 =>
    some (v13, S10))))
    else
    (some (0, S1))
set_option maxRecDepth 100000 in
set_option maxHeartbeats 4000000 in
theorem wMd_word_17 {Γ : vG} (hR : gR Γ = rMd_word) (hl : (gl Γ).flags = pinnedFlags ++ [noTraceFlag]) {X : Int32 × Sx}  : ∀ (x0 : Nat) (x1 : Int32) (x2 : Int32) (z0 : Int32) (z1 : Nat) (S : Sx), fMd_word_17  x0 x1 x2 z0 z1 S = some X → vV Γ tMd_word (mQ Γ 0 0 0 (some (.int X.1)) X.2) S 0 0 17 [(0, .ref x0), (1, .int x1), (2, .int x2)] [.int z0, .ref z1] := by
  intro x0 x1 x2 z0 z1 S h
  unfold fMd_word_17 at h
  obtain ⟨S1, e2, h⟩ := ob h
  refine v_putI (pc := 17) oF_Md_183 (fin_ok (kd := 12) (k := 0) (by decide +kernel)) e2 (show decode (tC tMd_word) 17 = .ok (.putfield 183, 3) by decide +kernel) ?_
  refine v_aload_n (pc := 20) (show decode (tC tMd_word) 20 = .ok (.aload_n 0, 1) by decide +kernel) 0 rfl rfl ?_
  obtain ⟨v3, e4, h⟩ := ob h
  refine v_getI (pc := 21) oF_Md_183 (by decide) e4 (show decode (tC tMd_word) 21 = .ok (.getfield 183, 3) by decide +kernel) ?_
  refine v_if_ne (pc := 24) 58 (show decode (tC tMd_word) 24 = .ok (.ifCond .ne 34, 3) by decide +kernel) (by decide) (fun c => ?_) (fun c => ?_)
  · replace h := ite_f c h
    refine v_iconst (pc := 58) (v := 0) (show decode (tC tMd_word) 58 = .ok (.iconst 0, 1) by decide +kernel) (by decide) ?_
    obtain rfl := Option.some.inj h
    refine v_wide (ce2 := 0) (sl2 := 0) (by decide) (by decide) ?_
    exact v_iret (pc := 59) rfl (show decode (tC tMd_word) 59 = .ok (.ireturn, 1) by decide +kernel)
  · replace h := ite_t c h
    refine v_iload_n (pc := 27) (show decode (tC tMd_word) 27 = .ok (.iload_n 1, 1) by decide +kernel) 1 rfl rfl ?_
    refine v_iconst (pc := 28) (v := 4) (show decode (tC tMd_word) 28 = .ok (.iconst 4, 1) by decide +kernel) (by decide) ?_
    obtain ⟨r6, S7, e5, h⟩ := ob2 h
    refine v_call (pc := 29) (v := (some (.int r6))) (y := yMd_in) (θ' := tMd_in) (rm := rMd_in) (av := [.int x1, .int 4]) (st := []) (cMd_in (l := gl Γ) hl e5) kMd_in iMd_in (iv_static (y := yMd_in) (θ' := tMd_in) (n := 2) (As := [.int x1, .int 4]) kMd_in (gT_in 1437 (by decide +kernel) rfl) sMd_in iMd_in mMd_in rfl (show decode (tC tMd_word) 29 = .ok (.invokestatic 241, 3) by decide +kernel)) ⟨by rw [hR]; decide, by rw [hR]; decide, by rw [hR]; decide, by rw [hR]; decide⟩ (Nat.le_of_ble_eq_true rfl) ?_
    refine v_if_eq (pc := 32) 58 (show decode (tC tMd_word) 32 = .ok (.ifCond .eq 26, 3) by decide +kernel) (by decide) (fun c => ?_) (fun c => ?_)
    · replace h := ite_t c h
      refine v_iconst (pc := 58) (v := 0) (show decode (tC tMd_word) 58 = .ok (.iconst 0, 1) by decide +kernel) (by decide) ?_
      obtain rfl := Option.some.inj h
      refine v_wide (ce2 := 0) (sl2 := 0) (by decide) (by decide) ?_
      exact v_iret (pc := 59) rfl (show decode (tC tMd_word) 59 = .ok (.ireturn, 1) by decide +kernel)
    · replace h := ite_f c h
      refine v_iload_n (pc := 35) (show decode (tC tMd_word) 35 = .ok (.iload_n 2, 1) by decide +kernel) 2 rfl rfl ?_
      refine v_bipush (pc := 36) (v := 16) (show decode (tC tMd_word) 36 = .ok (.bipush 16, 2) by decide +kernel) (by decide) ?_
      obtain ⟨r9, S10, e8, h⟩ := ob2 h
      refine v_call (pc := 38) (v := (some (.int r9))) (y := yMd_in) (θ' := tMd_in) (rm := rMd_in) (av := [.int x2, .int 16]) (st := []) (cMd_in (l := gl Γ) hl e8) kMd_in iMd_in (iv_static (y := yMd_in) (θ' := tMd_in) (n := 2) (As := [.int x2, .int 16]) kMd_in (gT_in 1437 (by decide +kernel) rfl) sMd_in iMd_in mMd_in rfl (show decode (tC tMd_word) 38 = .ok (.invokestatic 241, 3) by decide +kernel)) ⟨by rw [hR]; decide, by rw [hR]; decide, by rw [hR]; decide, by rw [hR]; decide⟩ (Nat.le_of_ble_eq_true rfl) ?_
      refine v_if_eq (pc := 41) 58 (show decode (tC tMd_word) 41 = .ok (.ifCond .eq 17, 3) by decide +kernel) (by decide) (fun c => ?_) (fun c => ?_)
      · replace h := ite_t c h
        refine v_iconst (pc := 58) (v := 0) (show decode (tC tMd_word) 58 = .ok (.iconst 0, 1) by decide +kernel) (by decide) ?_
        obtain rfl := Option.some.inj h
        refine v_wide (ce2 := 0) (sl2 := 0) (by decide) (by decide) ?_
        exact v_iret (pc := 59) rfl (show decode (tC tMd_word) 59 = .ok (.ireturn, 1) by decide +kernel)
      · replace h := ite_f c h
        refine v_aload_n (pc := 44) (show decode (tC tMd_word) 44 = .ok (.aload_n 0, 1) by decide +kernel) 0 rfl rfl ?_
        obtain ⟨v11, e12, h⟩ := ob h
        refine v_getX (pc := 45) oF_Md_116 e12 (show decode (tC tMd_word) 45 = .ok (.getfield 116, 3) by decide +kernel) ?_
        refine v_bipush (pc := 48) (v := 16) (show decode (tC tMd_word) 48 = .ok (.bipush 16, 2) by decide +kernel) (by decide) ?_
        refine v_iload_n (pc := 50) (show decode (tC tMd_word) 50 = .ok (.iload_n 1, 1) by decide +kernel) 1 rfl rfl ?_
        refine v_imul (pc := 51) (show decode (tC tMd_word) 51 = .ok (.imul, 1) by decide +kernel) ?_
        refine v_iload_n (pc := 52) (show decode (tC tMd_word) 52 = .ok (.iload_n 2, 1) by decide +kernel) 2 rfl rfl ?_
        refine v_iadd (pc := 53) (show decode (tC tMd_word) 53 = .ok (.iadd, 1) by decide +kernel) ?_
        obtain ⟨v13, e14, h⟩ := ob h
        refine v_iald (pc := 54) e14 (show decode (tC tMd_word) 54 = .ok (.iaload, 1) by decide +kernel) ?_
        refine v_goto (pc := 55) 59 (show decode (tC tMd_word) 55 = .ok (.goto 4, 3) by decide +kernel) (by decide) ?_
        obtain rfl := Option.some.inj h
        refine v_wide (ce2 := 0) (sl2 := 0) (by decide) (by decide) ?_
        exact v_iret (pc := 59) rfl (show decode (tC tMd_word) 59 = .ok (.ireturn, 1) by decide +kernel)
def fMd_word (x0 : Nat) (x1 : Int32) (x2 : Int32) (S : Sx) : Option (Int32 × Sx) :=
    (gI S 12 55 x0).bind fun v1 =>
    (gI S 12 54 x0).bind fun v3 =>
    if v3 ≤ v1 then
    (fMd_word_17  x0 x1 x2 0 x0 S)
    else
    (fMd_word_17  x0 x1 x2 1 x0 S)
set_option maxRecDepth 100000 in
set_option maxHeartbeats 4000000 in
theorem wMd_word {Γ : vG} (hR : gR Γ = rMd_word) (hl : (gl Γ).flags = pinnedFlags ++ [noTraceFlag]) (x0 : Nat) (x1 : Int32) (x2 : Int32) (S : Sx) {X : Int32 × Sx} (h : fMd_word x0 x1 x2 S = some X) : vV Γ tMd_word (mQ Γ 0 0 0 (some (.int X.1)) X.2) S 0 0 0 [(0, .ref x0), (1, .int x1), (2, .int x2)] [] := by
  unfold fMd_word at h
  refine v_aload_n (pc := 0) (show decode (tC tMd_word) 0 = .ok (.aload_n 0, 1) by decide +kernel) 0 rfl rfl ?_
  refine v_aload_n (pc := 1) (show decode (tC tMd_word) 1 = .ok (.aload_n 0, 1) by decide +kernel) 0 rfl rfl ?_
  obtain ⟨v1, e2, h⟩ := ob h
  refine v_getI (pc := 2) oF_Md_235 (by decide) e2 (show decode (tC tMd_word) 2 = .ok (.getfield 235, 3) by decide +kernel) ?_
  refine v_aload_n (pc := 5) (show decode (tC tMd_word) 5 = .ok (.aload_n 0, 1) by decide +kernel) 0 rfl rfl ?_
  obtain ⟨v3, e4, h⟩ := ob h
  refine v_getI (pc := 6) oF_Md_232 (by decide) e4 (show decode (tC tMd_word) 6 = .ok (.getfield 232, 3) by decide +kernel) ?_
  refine v_icmp_ge (pc := 9) 16 (show decode (tC tMd_word) 9 = .ok (.if_icmp .ge 7, 3) by decide +kernel) (by decide) (fun c => ?_) (fun c => ?_)
  · replace h := ite_t c h
    refine v_iconst (pc := 16) (v := 0) (show decode (tC tMd_word) 16 = .ok (.iconst 0, 1) by decide +kernel) (by decide) ?_
    exact wMd_word_17 hR hl  x0 x1 x2 0 x0 S h
  · replace h := ite_f c h
    refine v_iconst (pc := 12) (v := 1) (show decode (tC tMd_word) 12 = .ok (.iconst 1, 1) by decide +kernel) (by decide) ?_
    refine v_goto (pc := 13) 17 (show decode (tC tMd_word) 13 = .ok (.goto 4, 3) by decide +kernel) (by decide) ?_
    exact wMd_word_17 hR hl  x0 x1 x2 1 x0 S h
theorem cMd_word {l : Launch} (hl : l.flags = pinnedFlags ++ [noTraceFlag]) {D : va_G} {dA : Nat → ClassId} {B : Nat} {x0 : Nat} {x1 : Int32} {x2 : Int32} {S : Sx} {X : Int32 × Sx} (h : fMd_word x0 x1 x2 S = some X) : Mx l yMd_word tMd_word rMd_word 0 0 D dA B S [.ref x0, .int x1, .int x2] 0 (some (.int X.1)) X.2 :=
  mx_of hl (by decide) rfl rfl (Nat.le_of_ble_eq_true rfl) (fun Γ e1 e2 e3 e4 e5 => by subst e1; subst e3; subst e4; subst e5; exact wMd_word e2 hl x0 x1 x2 S h)
/-! MatchPipeModel.entries(I)I -/
def yMd_entries : MethodName := ⟨"MatchPipeModel", "entries", "(I)I"⟩
def tMd_entries : tM := (prog_14_method_58_code, "MatchPipeModel", 2, "entries", some .int, [])
def rMd_entries : Room := { frames := 1, cells := 0, slots := 0, locals := 21 }
theorem kMd_entries : cOf yMd_entries tMd_entries ∈ gT := gT_in 1649 (by decide +kernel) rfl
theorem iMd_entries : Cond.initialized yMd_entries.cls ∈ gT := gT_in 68 (by decide +kernel) rfl
theorem mMd_entries : okM yMd_entries 1 := ⟨by decide, by decide, by unfold nPar; decide +kernel⟩
theorem nMd_entries : Cond.instanceMethod yMd_entries ∈ gT := gT_in 1647 (by decide +kernel) rfl
theorem lMd_entries : Cond.selects "MatchPipeModel" yMd_entries yMd_entries ∈ gT := gT_in 1648 (by decide +kernel) rfl
def fMd_entries_17  (x0 : Nat) (x1 : Int32) (z0 : Int32) (z1 : Nat) (S : Sx) : Option (Int32 × Sx) :=
    (pI S 12 0 z1 z0).bind fun S1 =>
    (gI S1 12 0 x0).bind fun v3 =>
    if v3 ≤ 0 then
    ((gI S1 12 4 x0).bind fun v5 =>
    bd2 (fMd_in x1 v5 S1) fun r8 S9 =>
    if r8 = 0 then
    (some ((-1), S9))
    else
    ((gX S9 12 35 x0).bind fun v10 =>
    (aI S9 v10 x1).bind fun v12 =>
    some (v12, S9)))
    else
    (some (0, S1))
set_option maxRecDepth 100000 in
set_option maxHeartbeats 4000000 in
theorem wMd_entries_17 {Γ : vG} (hR : gR Γ = rMd_entries) (hl : (gl Γ).flags = pinnedFlags ++ [noTraceFlag]) {X : Int32 × Sx}  : ∀ (x0 : Nat) (x1 : Int32) (z0 : Int32) (z1 : Nat) (S : Sx), fMd_entries_17  x0 x1 z0 z1 S = some X → vV Γ tMd_entries (mQ Γ 0 0 0 (some (.int X.1)) X.2) S 0 0 17 [(0, .ref x0), (1, .int x1)] [.int z0, .ref z1] := by
  intro x0 x1 z0 z1 S h
  unfold fMd_entries_17 at h
  obtain ⟨S1, e2, h⟩ := ob h
  refine v_putI (pc := 17) oF_Md_183 (fin_ok (kd := 12) (k := 0) (by decide +kernel)) e2 (show decode (tC tMd_entries) 17 = .ok (.putfield 183, 3) by decide +kernel) ?_
  refine v_aload_n (pc := 20) (show decode (tC tMd_entries) 20 = .ok (.aload_n 0, 1) by decide +kernel) 0 rfl rfl ?_
  obtain ⟨v3, e4, h⟩ := ob h
  refine v_getI (pc := 21) oF_Md_183 (by decide) e4 (show decode (tC tMd_entries) 21 = .ok (.getfield 183, 3) by decide +kernel) ?_
  refine v_if_le (pc := 24) 31 (show decode (tC tMd_entries) 24 = .ok (.ifCond .le 7, 3) by decide +kernel) (by decide) (fun c => ?_) (fun c => ?_)
  · replace h := ite_t c h
    refine v_iload_n (pc := 31) (show decode (tC tMd_entries) 31 = .ok (.iload_n 1, 1) by decide +kernel) 1 rfl rfl ?_
    refine v_aload_n (pc := 32) (show decode (tC tMd_entries) 32 = .ok (.aload_n 0, 1) by decide +kernel) 0 rfl rfl ?_
    obtain ⟨v5, e6, h⟩ := ob h
    refine v_getI (pc := 33) oF_Md_195 (by decide) e6 (show decode (tC tMd_entries) 33 = .ok (.getfield 195, 3) by decide +kernel) ?_
    obtain ⟨r8, S9, e7, h⟩ := ob2 h
    refine v_call (pc := 36) (v := (some (.int r8))) (y := yMd_in) (θ' := tMd_in) (rm := rMd_in) (av := [.int x1, .int v5]) (st := []) (cMd_in (l := gl Γ) hl e7) kMd_in iMd_in (iv_static (y := yMd_in) (θ' := tMd_in) (n := 2) (As := [.int x1, .int v5]) kMd_in (gT_in 1437 (by decide +kernel) rfl) sMd_in iMd_in mMd_in rfl (show decode (tC tMd_entries) 36 = .ok (.invokestatic 241, 3) by decide +kernel)) ⟨by rw [hR]; decide, by rw [hR]; decide, by rw [hR]; decide, by rw [hR]; decide⟩ (Nat.le_of_ble_eq_true rfl) ?_
    refine v_if_eq (pc := 39) 51 (show decode (tC tMd_entries) 39 = .ok (.ifCond .eq 12, 3) by decide +kernel) (by decide) (fun c => ?_) (fun c => ?_)
    · replace h := ite_t c h
      refine v_iconst (pc := 51) (v := (-1)) (show decode (tC tMd_entries) 51 = .ok (.iconst (-1), 1) by decide +kernel) (by decide) ?_
      obtain rfl := Option.some.inj h
      refine v_wide (ce2 := 0) (sl2 := 0) (by decide) (by decide) ?_
      exact v_iret (pc := 52) rfl (show decode (tC tMd_entries) 52 = .ok (.ireturn, 1) by decide +kernel)
    · replace h := ite_f c h
      refine v_aload_n (pc := 42) (show decode (tC tMd_entries) 42 = .ok (.aload_n 0, 1) by decide +kernel) 0 rfl rfl ?_
      obtain ⟨v10, e11, h⟩ := ob h
      refine v_getX (pc := 43) oF_Md_89 e11 (show decode (tC tMd_entries) 43 = .ok (.getfield 89, 3) by decide +kernel) ?_
      refine v_iload_n (pc := 46) (show decode (tC tMd_entries) 46 = .ok (.iload_n 1, 1) by decide +kernel) 1 rfl rfl ?_
      obtain ⟨v12, e13, h⟩ := ob h
      refine v_iald (pc := 47) e13 (show decode (tC tMd_entries) 47 = .ok (.iaload, 1) by decide +kernel) ?_
      refine v_goto (pc := 48) 52 (show decode (tC tMd_entries) 48 = .ok (.goto 4, 3) by decide +kernel) (by decide) ?_
      obtain rfl := Option.some.inj h
      refine v_wide (ce2 := 0) (sl2 := 0) (by decide) (by decide) ?_
      exact v_iret (pc := 52) rfl (show decode (tC tMd_entries) 52 = .ok (.ireturn, 1) by decide +kernel)
  · replace h := ite_f c h
    refine v_iconst (pc := 27) (v := 0) (show decode (tC tMd_entries) 27 = .ok (.iconst 0, 1) by decide +kernel) (by decide) ?_
    refine v_goto (pc := 28) 52 (show decode (tC tMd_entries) 28 = .ok (.goto 24, 3) by decide +kernel) (by decide) ?_
    obtain rfl := Option.some.inj h
    refine v_wide (ce2 := 0) (sl2 := 0) (by decide) (by decide) ?_
    exact v_iret (pc := 52) rfl (show decode (tC tMd_entries) 52 = .ok (.ireturn, 1) by decide +kernel)
def fMd_entries (x0 : Nat) (x1 : Int32) (S : Sx) : Option (Int32 × Sx) :=
    (gI S 12 55 x0).bind fun v1 =>
    (gI S 12 54 x0).bind fun v3 =>
    if v3 ≤ v1 then
    (fMd_entries_17  x0 x1 0 x0 S)
    else
    (fMd_entries_17  x0 x1 1 x0 S)
set_option maxRecDepth 100000 in
set_option maxHeartbeats 4000000 in
theorem wMd_entries {Γ : vG} (hR : gR Γ = rMd_entries) (hl : (gl Γ).flags = pinnedFlags ++ [noTraceFlag]) (x0 : Nat) (x1 : Int32) (S : Sx) {X : Int32 × Sx} (h : fMd_entries x0 x1 S = some X) : vV Γ tMd_entries (mQ Γ 0 0 0 (some (.int X.1)) X.2) S 0 0 0 [(0, .ref x0), (1, .int x1)] [] := by
  unfold fMd_entries at h
  refine v_aload_n (pc := 0) (show decode (tC tMd_entries) 0 = .ok (.aload_n 0, 1) by decide +kernel) 0 rfl rfl ?_
  refine v_aload_n (pc := 1) (show decode (tC tMd_entries) 1 = .ok (.aload_n 0, 1) by decide +kernel) 0 rfl rfl ?_
  obtain ⟨v1, e2, h⟩ := ob h
  refine v_getI (pc := 2) oF_Md_235 (by decide) e2 (show decode (tC tMd_entries) 2 = .ok (.getfield 235, 3) by decide +kernel) ?_
  refine v_aload_n (pc := 5) (show decode (tC tMd_entries) 5 = .ok (.aload_n 0, 1) by decide +kernel) 0 rfl rfl ?_
  obtain ⟨v3, e4, h⟩ := ob h
  refine v_getI (pc := 6) oF_Md_232 (by decide) e4 (show decode (tC tMd_entries) 6 = .ok (.getfield 232, 3) by decide +kernel) ?_
  refine v_icmp_ge (pc := 9) 16 (show decode (tC tMd_entries) 9 = .ok (.if_icmp .ge 7, 3) by decide +kernel) (by decide) (fun c => ?_) (fun c => ?_)
  · replace h := ite_t c h
    refine v_iconst (pc := 16) (v := 0) (show decode (tC tMd_entries) 16 = .ok (.iconst 0, 1) by decide +kernel) (by decide) ?_
    exact wMd_entries_17 hR hl  x0 x1 0 x0 S h
  · replace h := ite_f c h
    refine v_iconst (pc := 12) (v := 1) (show decode (tC tMd_entries) 12 = .ok (.iconst 1, 1) by decide +kernel) (by decide) ?_
    refine v_goto (pc := 13) 17 (show decode (tC tMd_entries) 13 = .ok (.goto 4, 3) by decide +kernel) (by decide) ?_
    exact wMd_entries_17 hR hl  x0 x1 1 x0 S h
theorem cMd_entries {l : Launch} (hl : l.flags = pinnedFlags ++ [noTraceFlag]) {D : va_G} {dA : Nat → ClassId} {B : Nat} {x0 : Nat} {x1 : Int32} {S : Sx} {X : Int32 × Sx} (h : fMd_entries x0 x1 S = some X) : Mx l yMd_entries tMd_entries rMd_entries 0 0 D dA B S [.ref x0, .int x1] 0 (some (.int X.1)) X.2 :=
  mx_of hl (by decide) rfl rfl (Nat.le_of_ble_eq_true rfl) (fun Γ e1 e2 e3 e4 e5 => by subst e1; subst e3; subst e4; subst e5; exact wMd_entries e2 hl x0 x1 S h)
/-! MatchPipeModel.count(I)I -/
def yMd_count : MethodName := ⟨"MatchPipeModel", "count", "(I)I"⟩
def tMd_count : tM := (prog_14_method_59_code, "MatchPipeModel", 2, "count", some .int, [])
def rMd_count : Room := { frames := 0, cells := 0, slots := 0, locals := 0 }
theorem kMd_count : cOf yMd_count tMd_count ∈ gT := gT_in 1653 (by decide +kernel) rfl
theorem iMd_count : Cond.initialized yMd_count.cls ∈ gT := gT_in 68 (by decide +kernel) rfl
theorem mMd_count : okM yMd_count 1 := ⟨by decide, by decide, by unfold nPar; decide +kernel⟩
theorem nMd_count : Cond.instanceMethod yMd_count ∈ gT := gT_in 1651 (by decide +kernel) rfl
theorem lMd_count : Cond.selects "MatchPipeModel" yMd_count yMd_count ∈ gT := gT_in 1652 (by decide +kernel) rfl
def fMd_count (x0 : Nat) (x1 : Int32) (S : Sx) : Option (Int32 × Sx) :=
    (pI S 12 0 x0 0).bind fun S1 =>
    if x1 = 0 then
    ((gI S1 12 52 x0).bind fun v3 =>
    some (v3, S1))
    else if x1 = 1 then
    ((gI S1 12 53 x0).bind fun v5 =>
    some (v5, S1))
    else if x1 = 2 then
    ((gI S1 12 54 x0).bind fun v7 =>
    (gI S1 12 55 x0).bind fun v9 =>
    some (v7 - v9, S1))
    else if x1 = 3 then
    ((gI S1 12 55 x0).bind fun v11 =>
    some (v11, S1))
    else if x1 = 4 then
    ((gI S1 12 56 x0).bind fun v13 =>
    some (v13, S1))
    else if x1 = 5 then
    ((gI S1 12 7 x0).bind fun v15 =>
    if v15 = 0 then
    (some (0, S1))
    else
    ((gI S1 12 6 x0).bind fun v17 =>
    some (v17, S1)))
    else 
    (some ((-1), S1))
set_option maxRecDepth 100000 in
set_option maxHeartbeats 4000000 in
theorem wMd_count {Γ : vG} (hR : gR Γ = rMd_count) (hl : (gl Γ).flags = pinnedFlags ++ [noTraceFlag]) (x0 : Nat) (x1 : Int32) (S : Sx) {X : Int32 × Sx} (h : fMd_count x0 x1 S = some X) : vV Γ tMd_count (mQ Γ 0 0 0 (some (.int X.1)) X.2) S 0 0 0 [(0, .ref x0), (1, .int x1)] [] := by
  unfold fMd_count at h
  refine v_aload_n (pc := 0) (show decode (tC tMd_count) 0 = .ok (.aload_n 0, 1) by decide +kernel) 0 rfl rfl ?_
  refine v_iconst (pc := 1) (v := 0) (show decode (tC tMd_count) 1 = .ok (.iconst 0, 1) by decide +kernel) (by decide) ?_
  obtain ⟨S1, e2, h⟩ := ob h
  refine v_putI (pc := 2) oF_Md_183 (fin_ok (kd := 12) (k := 0) (by decide +kernel)) e2 (show decode (tC tMd_count) 2 = .ok (.putfield 183, 3) by decide +kernel) ?_
  refine v_iload_n (pc := 5) (show decode (tC tMd_count) 5 = .ok (.iload_n 1, 1) by decide +kernel) 1 rfl rfl ?_
  by_cases c0 : x1 = 0
  · replace h := ite_t c0 h
    refine v_tblIn (pc := 6) (off := 38) 44 (show decode (tC tMd_count) 6 = .ok (.tableswitch 84 0 5 #[38, 43, 48, 58, 63, 68], 38) by decide +kernel) (by rw [c0]; decide) (by rw [c0]; decide) (by rw [c0]; decide) (by decide) ?_
    refine v_aload_n (pc := 44) (show decode (tC tMd_count) 44 = .ok (.aload_n 0, 1) by decide +kernel) 0 rfl rfl ?_
    obtain ⟨v3, e4, h⟩ := ob h
    refine v_getI (pc := 45) oF_Md_226 (by decide) e4 (show decode (tC tMd_count) 45 = .ok (.getfield 226, 3) by decide +kernel) ?_
    obtain rfl := Option.some.inj h
    refine v_wide (ce2 := 0) (sl2 := 0) (by decide) (by decide) ?_
    exact v_iret (pc := 48) rfl (show decode (tC tMd_count) 48 = .ok (.ireturn, 1) by decide +kernel)
  · replace h := ite_f c0 h
    by_cases c1 : x1 = 1
    · replace h := ite_t c1 h
      refine v_tblIn (pc := 6) (off := 43) 49 (show decode (tC tMd_count) 6 = .ok (.tableswitch 84 0 5 #[38, 43, 48, 58, 63, 68], 38) by decide +kernel) (by rw [c1]; decide) (by rw [c1]; decide) (by rw [c1]; decide) (by decide) ?_
      refine v_aload_n (pc := 49) (show decode (tC tMd_count) 49 = .ok (.aload_n 0, 1) by decide +kernel) 0 rfl rfl ?_
      obtain ⟨v5, e6, h⟩ := ob h
      refine v_getI (pc := 50) oF_Md_229 (by decide) e6 (show decode (tC tMd_count) 50 = .ok (.getfield 229, 3) by decide +kernel) ?_
      obtain rfl := Option.some.inj h
      refine v_wide (ce2 := 0) (sl2 := 0) (by decide) (by decide) ?_
      exact v_iret (pc := 53) rfl (show decode (tC tMd_count) 53 = .ok (.ireturn, 1) by decide +kernel)
    · replace h := ite_f c1 h
      by_cases c2 : x1 = 2
      · replace h := ite_t c2 h
        refine v_tblIn (pc := 6) (off := 48) 54 (show decode (tC tMd_count) 6 = .ok (.tableswitch 84 0 5 #[38, 43, 48, 58, 63, 68], 38) by decide +kernel) (by rw [c2]; decide) (by rw [c2]; decide) (by rw [c2]; decide) (by decide) ?_
        refine v_aload_n (pc := 54) (show decode (tC tMd_count) 54 = .ok (.aload_n 0, 1) by decide +kernel) 0 rfl rfl ?_
        obtain ⟨v7, e8, h⟩ := ob h
        refine v_getI (pc := 55) oF_Md_232 (by decide) e8 (show decode (tC tMd_count) 55 = .ok (.getfield 232, 3) by decide +kernel) ?_
        refine v_aload_n (pc := 58) (show decode (tC tMd_count) 58 = .ok (.aload_n 0, 1) by decide +kernel) 0 rfl rfl ?_
        obtain ⟨v9, e10, h⟩ := ob h
        refine v_getI (pc := 59) oF_Md_235 (by decide) e10 (show decode (tC tMd_count) 59 = .ok (.getfield 235, 3) by decide +kernel) ?_
        refine v_isub (pc := 62) (show decode (tC tMd_count) 62 = .ok (.isub, 1) by decide +kernel) ?_
        obtain rfl := Option.some.inj h
        refine v_wide (ce2 := 0) (sl2 := 0) (by decide) (by decide) ?_
        exact v_iret (pc := 63) rfl (show decode (tC tMd_count) 63 = .ok (.ireturn, 1) by decide +kernel)
      · replace h := ite_f c2 h
        by_cases c3 : x1 = 3
        · replace h := ite_t c3 h
          refine v_tblIn (pc := 6) (off := 58) 64 (show decode (tC tMd_count) 6 = .ok (.tableswitch 84 0 5 #[38, 43, 48, 58, 63, 68], 38) by decide +kernel) (by rw [c3]; decide) (by rw [c3]; decide) (by rw [c3]; decide) (by decide) ?_
          refine v_aload_n (pc := 64) (show decode (tC tMd_count) 64 = .ok (.aload_n 0, 1) by decide +kernel) 0 rfl rfl ?_
          obtain ⟨v11, e12, h⟩ := ob h
          refine v_getI (pc := 65) oF_Md_235 (by decide) e12 (show decode (tC tMd_count) 65 = .ok (.getfield 235, 3) by decide +kernel) ?_
          obtain rfl := Option.some.inj h
          refine v_wide (ce2 := 0) (sl2 := 0) (by decide) (by decide) ?_
          exact v_iret (pc := 68) rfl (show decode (tC tMd_count) 68 = .ok (.ireturn, 1) by decide +kernel)
        · replace h := ite_f c3 h
          by_cases c4 : x1 = 4
          · replace h := ite_t c4 h
            refine v_tblIn (pc := 6) (off := 63) 69 (show decode (tC tMd_count) 6 = .ok (.tableswitch 84 0 5 #[38, 43, 48, 58, 63, 68], 38) by decide +kernel) (by rw [c4]; decide) (by rw [c4]; decide) (by rw [c4]; decide) (by decide) ?_
            refine v_aload_n (pc := 69) (show decode (tC tMd_count) 69 = .ok (.aload_n 0, 1) by decide +kernel) 0 rfl rfl ?_
            obtain ⟨v13, e14, h⟩ := ob h
            refine v_getI (pc := 70) oF_Md_238 (by decide) e14 (show decode (tC tMd_count) 70 = .ok (.getfield 238, 3) by decide +kernel) ?_
            obtain rfl := Option.some.inj h
            refine v_wide (ce2 := 0) (sl2 := 0) (by decide) (by decide) ?_
            exact v_iret (pc := 73) rfl (show decode (tC tMd_count) 73 = .ok (.ireturn, 1) by decide +kernel)
          · replace h := ite_f c4 h
            by_cases c5 : x1 = 5
            · replace h := ite_t c5 h
              refine v_tblIn (pc := 6) (off := 68) 74 (show decode (tC tMd_count) 6 = .ok (.tableswitch 84 0 5 #[38, 43, 48, 58, 63, 68], 38) by decide +kernel) (by rw [c5]; decide) (by rw [c5]; decide) (by rw [c5]; decide) (by decide) ?_
              refine v_aload_n (pc := 74) (show decode (tC tMd_count) 74 = .ok (.aload_n 0, 1) by decide +kernel) 0 rfl rfl ?_
              obtain ⟨v15, e16, h⟩ := ob h
              refine v_getI (pc := 75) oF_Md_204 (by decide) e16 (show decode (tC tMd_count) 75 = .ok (.getfield 204, 3) by decide +kernel) ?_
              refine v_if_eq (pc := 78) 88 (show decode (tC tMd_count) 78 = .ok (.ifCond .eq 10, 3) by decide +kernel) (by decide) (fun c => ?_) (fun c => ?_)
              · replace h := ite_t c h
                refine v_iconst (pc := 88) (v := 0) (show decode (tC tMd_count) 88 = .ok (.iconst 0, 1) by decide +kernel) (by decide) ?_
                obtain rfl := Option.some.inj h
                refine v_wide (ce2 := 0) (sl2 := 0) (by decide) (by decide) ?_
                exact v_iret (pc := 89) rfl (show decode (tC tMd_count) 89 = .ok (.ireturn, 1) by decide +kernel)
              · replace h := ite_f c h
                refine v_aload_n (pc := 81) (show decode (tC tMd_count) 81 = .ok (.aload_n 0, 1) by decide +kernel) 0 rfl rfl ?_
                obtain ⟨v17, e18, h⟩ := ob h
                refine v_getI (pc := 82) oF_Md_201 (by decide) e18 (show decode (tC tMd_count) 82 = .ok (.getfield 201, 3) by decide +kernel) ?_
                refine v_goto (pc := 85) 89 (show decode (tC tMd_count) 85 = .ok (.goto 4, 3) by decide +kernel) (by decide) ?_
                obtain rfl := Option.some.inj h
                refine v_wide (ce2 := 0) (sl2 := 0) (by decide) (by decide) ?_
                exact v_iret (pc := 89) rfl (show decode (tC tMd_count) 89 = .ok (.ireturn, 1) by decide +kernel)
            · replace h := ite_f c5 h
              refine v_tblOut (pc := 6) 90 (show decode (tC tMd_count) 6 = .ok (.tableswitch 84 0 5 #[38, 43, 48, 58, 63, 68], 38) by decide +kernel) (tbl_out 6 (fun i hi => match i, hi with | 0, _ => by have := toInt_ne c0; exact this | 1, _ => by have := toInt_ne c1; exact this | 2, _ => by have := toInt_ne c2; exact this | 3, _ => by have := toInt_ne c3; exact this | 4, _ => by have := toInt_ne c4; exact this | 5, _ => by have := toInt_ne c5; exact this | i + 6, hi => absurd hi (by omega)) (by decide)) (by decide) ?_
              refine v_iconst (pc := 90) (v := (-1)) (show decode (tC tMd_count) 90 = .ok (.iconst (-1), 1) by decide +kernel) (by decide) ?_
              obtain rfl := Option.some.inj h
              refine v_wide (ce2 := 0) (sl2 := 0) (by decide) (by decide) ?_
              exact v_iret (pc := 91) rfl (show decode (tC tMd_count) 91 = .ok (.ireturn, 1) by decide +kernel)
theorem cMd_count {l : Launch} (hl : l.flags = pinnedFlags ++ [noTraceFlag]) {D : va_G} {dA : Nat → ClassId} {B : Nat} {x0 : Nat} {x1 : Int32} {S : Sx} {X : Int32 × Sx} (h : fMd_count x0 x1 S = some X) : Mx l yMd_count tMd_count rMd_count 0 0 D dA B S [.ref x0, .int x1] 0 (some (.int X.1)) X.2 :=
  mx_of hl (by decide) rfl rfl (Nat.le_of_ble_eq_true rfl) (fun Γ e1 e2 e3 e4 e5 => by subst e1; subst e3; subst e4; subst e5; exact wMd_count e2 hl x0 x1 S h)
