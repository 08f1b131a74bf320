theorem oF_Md_7 : okF "MatchPipeModel" 7 12 8 1 := ⟨_, rfl, by decide, gT_in 1187 (by decide +kernel) rfl, rfl⟩
theorem oF_Md_13 : okF "MatchPipeModel" 13 12 9 1 := ⟨_, rfl, by decide, gT_in 1188 (by decide +kernel) rfl, rfl⟩
theorem oF_Md_16 : okF "MatchPipeModel" 16 12 10 1 := ⟨_, rfl, by decide, gT_in 1189 (by decide +kernel) rfl, rfl⟩
theorem oF_Md_19 : okF "MatchPipeModel" 19 12 11 1 := ⟨_, rfl, by decide, gT_in 1190 (by decide +kernel) rfl, rfl⟩
theorem oF_Md_22 : okF "MatchPipeModel" 22 12 12 1 := ⟨_, rfl, by decide, gT_in 1191 (by decide +kernel) rfl, rfl⟩
theorem oF_Md_25 : okF "MatchPipeModel" 25 12 13 1 := ⟨_, rfl, by decide, gT_in 1192 (by decide +kernel) rfl, rfl⟩
theorem oF_Md_28 : okF "MatchPipeModel" 28 12 14 1 := ⟨_, rfl, by decide, gT_in 1193 (by decide +kernel) rfl, rfl⟩
theorem oF_Md_31 : okF "MatchPipeModel" 31 12 15 1 := ⟨_, rfl, by decide, gT_in 1194 (by decide +kernel) rfl, rfl⟩
theorem oF_Md_34 : okF "MatchPipeModel" 34 12 16 1 := ⟨_, rfl, by decide, gT_in 1195 (by decide +kernel) rfl, rfl⟩
theorem oF_Md_37 : okF "MatchPipeModel" 37 12 17 1 := ⟨_, rfl, by decide, gT_in 1196 (by decide +kernel) rfl, rfl⟩
theorem oF_Md_40 : okF "MatchPipeModel" 40 12 18 1 := ⟨_, rfl, by decide, gT_in 1197 (by decide +kernel) rfl, rfl⟩
theorem oF_Md_43 : okF "MatchPipeModel" 43 12 19 1 := ⟨_, rfl, by decide, gT_in 1198 (by decide +kernel) rfl, rfl⟩
theorem oF_Md_46 : okF "MatchPipeModel" 46 12 20 1 := ⟨_, rfl, by decide, gT_in 1199 (by decide +kernel) rfl, rfl⟩
theorem oF_Md_49 : okF "MatchPipeModel" 49 12 21 1 := ⟨_, rfl, by decide, gT_in 1200 (by decide +kernel) rfl, rfl⟩
theorem oF_Md_52 : okF "MatchPipeModel" 52 12 22 1 := ⟨_, rfl, by decide, gT_in 1201 (by decide +kernel) rfl, rfl⟩
theorem oF_Md_55 : okF "MatchPipeModel" 55 12 23 1 := ⟨_, rfl, by decide, gT_in 1202 (by decide +kernel) rfl, rfl⟩
theorem oF_Md_58 : okF "MatchPipeModel" 58 12 24 1 := ⟨_, rfl, by decide, gT_in 1203 (by decide +kernel) rfl, rfl⟩
theorem oF_Md_61 : okF "MatchPipeModel" 61 12 25 1 := ⟨_, rfl, by decide, gT_in 1204 (by decide +kernel) rfl, rfl⟩
theorem oF_Md_64 : okF "MatchPipeModel" 64 12 26 1 := ⟨_, rfl, by decide, gT_in 1205 (by decide +kernel) rfl, rfl⟩
theorem oF_Md_67 : okF "MatchPipeModel" 67 12 27 1 := ⟨_, rfl, by decide, gT_in 1206 (by decide +kernel) rfl, rfl⟩
theorem oF_Md_70 : okF "MatchPipeModel" 70 12 28 1 := ⟨_, rfl, by decide, gT_in 1207 (by decide +kernel) rfl, rfl⟩
theorem oF_Md_73 : okF "MatchPipeModel" 73 12 29 1 := ⟨_, rfl, by decide, gT_in 1208 (by decide +kernel) rfl, rfl⟩
theorem oF_Md_76 : okF "MatchPipeModel" 76 12 30 1 := ⟨_, rfl, by decide, gT_in 1209 (by decide +kernel) rfl, rfl⟩
theorem oF_Md_79 : okF "MatchPipeModel" 79 12 31 1 := ⟨_, rfl, by decide, gT_in 1210 (by decide +kernel) rfl, rfl⟩
theorem oF_Md_85 : okF "MatchPipeModel" 85 12 34 0 := ⟨_, rfl, by decide, gT_in 1213 (by decide +kernel) rfl, rfl⟩
theorem oF_Md_89 : okF "MatchPipeModel" 89 12 35 1 := ⟨_, rfl, by decide, gT_in 1214 (by decide +kernel) rfl, rfl⟩
theorem oF_Md_116 : okF "MatchPipeModel" 116 12 44 1 := ⟨_, rfl, by decide, gT_in 1223 (by decide +kernel) rfl, rfl⟩
theorem oF_Md_119 : okF "MatchPipeModel" 119 12 45 1 := ⟨_, rfl, by decide, gT_in 1224 (by decide +kernel) rfl, rfl⟩
theorem oF_Md_183 : okF "MatchPipeModel" 183 12 0 0 := ⟨_, rfl, by decide, gT_in 1179 (by decide +kernel) rfl, rfl⟩
theorem oF_Md_186 : okF "MatchPipeModel" 186 12 1 0 := ⟨_, rfl, by decide, gT_in 1180 (by decide +kernel) rfl, rfl⟩
theorem oF_Md_189 : okF "MatchPipeModel" 189 12 2 0 := ⟨_, rfl, by decide, gT_in 1181 (by decide +kernel) rfl, rfl⟩
theorem oF_Md_192 : okF "MatchPipeModel" 192 12 3 0 := ⟨_, rfl, by decide, gT_in 1182 (by decide +kernel) rfl, rfl⟩
theorem oF_Md_195 : okF "MatchPipeModel" 195 12 4 0 := ⟨_, rfl, by decide, gT_in 1183 (by decide +kernel) rfl, rfl⟩
theorem oF_Md_198 : okF "MatchPipeModel" 198 12 5 0 := ⟨_, rfl, by decide, gT_in 1184 (by decide +kernel) rfl, rfl⟩
theorem oF_Md_201 : okF "MatchPipeModel" 201 12 6 0 := ⟨_, rfl, by decide, gT_in 1185 (by decide +kernel) rfl, rfl⟩
theorem oF_Md_204 : okF "MatchPipeModel" 204 12 7 2 := ⟨_, rfl, by decide, gT_in 1186 (by decide +kernel) rfl, rfl⟩
theorem oF_Md_208 : okF "MatchPipeModel" 208 12 33 0 := ⟨_, rfl, by decide, gT_in 1212 (by decide +kernel) rfl, rfl⟩
theorem oF_Md_211 : okF "MatchPipeModel" 211 12 47 0 := ⟨_, rfl, by decide, gT_in 1226 (by decide +kernel) rfl, rfl⟩
theorem oF_Md_214 : okF "MatchPipeModel" 214 12 48 0 := ⟨_, rfl, by decide, gT_in 1227 (by decide +kernel) rfl, rfl⟩
theorem oF_Md_217 : okF "MatchPipeModel" 217 12 49 0 := ⟨_, rfl, by decide, gT_in 1228 (by decide +kernel) rfl, rfl⟩
theorem oF_Md_220 : okF "MatchPipeModel" 220 12 50 0 := ⟨_, rfl, by decide, gT_in 1229 (by decide +kernel) rfl, rfl⟩
theorem oF_Md_223 : okF "MatchPipeModel" 223 12 51 0 := ⟨_, rfl, by decide, gT_in 1230 (by decide +kernel) rfl, rfl⟩
theorem oF_Md_226 : okF "MatchPipeModel" 226 12 52 0 := ⟨_, rfl, by decide, gT_in 1231 (by decide +kernel) rfl, rfl⟩
theorem oF_Md_229 : okF "MatchPipeModel" 229 12 53 0 := ⟨_, rfl, by decide, gT_in 1232 (by decide +kernel) rfl, rfl⟩
theorem oF_Md_232 : okF "MatchPipeModel" 232 12 54 0 := ⟨_, rfl, by decide, gT_in 1233 (by decide +kernel) rfl, rfl⟩
theorem oF_Md_235 : okF "MatchPipeModel" 235 12 55 0 := ⟨_, rfl, by decide, gT_in 1234 (by decide +kernel) rfl, rfl⟩
theorem oF_Md_238 : okF "MatchPipeModel" 238 12 56 0 := ⟨_, rfl, by decide, gT_in 1235 (by decide +kernel) rfl, rfl⟩
/-! MatchPipeModel.thrown()I -/
def yMd_thrown : MethodName := ⟨"MatchPipeModel", "thrown", "()I"⟩
def tMd_thrown : tM := (prog_14_method_2_code, "MatchPipeModel", 1, "thrown", some .int, [])
def rMd_thrown : Room := { frames := 0, cells := 0, slots := 0, locals := 0 }
theorem kMd_thrown : cOf yMd_thrown tMd_thrown ∈ gT := gT_in 1424 (by decide +kernel) rfl
theorem iMd_thrown : Cond.initialized yMd_thrown.cls ∈ gT := gT_in 68 (by decide +kernel) rfl
theorem mMd_thrown : okM yMd_thrown 0 := ⟨by decide, by decide, by unfold nPar; decide +kernel⟩
theorem nMd_thrown : Cond.instanceMethod yMd_thrown ∈ gT := gT_in 1422 (by decide +kernel) rfl
theorem lMd_thrown : Cond.selects "MatchPipeModel" yMd_thrown yMd_thrown ∈ gT := gT_in 1423 (by decide +kernel) rfl
def fMd_thrown (x0 : Nat) (S : Sx) : Option (Int32 × Sx) :=
    (gI S 12 0 x0).bind fun v1 =>
    some (v1, S)
set_option maxRecDepth 100000 in
set_option maxHeartbeats 4000000 in
theorem wMd_thrown {Γ : vG} (hR : gR Γ = rMd_thrown) (hl : (gl Γ).flags = pinnedFlags ++ [noTraceFlag]) (x0 : Nat) (S : Sx) {X : Int32 × Sx} (h : fMd_thrown x0 S = some X) : vV Γ tMd_thrown (mQ Γ 0 0 0 (some (.int X.1)) X.2) S 0 0 0 [(0, .ref x0)] [] := by
  unfold fMd_thrown at h
  refine v_aload_n (pc := 0) (show decode (tC tMd_thrown) 0 = .ok (.aload_n 0, 1) by decide +kernel) 0 rfl rfl ?_
  obtain ⟨v1, e2, h⟩ := ob h
  refine v_getI (pc := 1) oF_Md_183 (by decide) e2 (show decode (tC tMd_thrown) 1 = .ok (.getfield 183, 3) by decide +kernel) ?_
  obtain rfl := Option.some.inj h
  refine v_wide (ce2 := 0) (sl2 := 0) (by decide) (by decide) ?_
  exact v_iret (pc := 4) rfl (show decode (tC tMd_thrown) 4 = .ok (.ireturn, 1) by decide +kernel)
theorem cMd_thrown {l : Launch} (hl : l.flags = pinnedFlags ++ [noTraceFlag]) {D : va_G} {dA : Nat → ClassId} {B : Nat} {x0 : Nat} {S : Sx} {X : Int32 × Sx} (h : fMd_thrown x0 S = some X) : Mx l yMd_thrown tMd_thrown rMd_thrown 0 0 D dA B S [.ref x0] 0 (some (.int X.1)) X.2 :=
  mx_of hl (by decide) rfl rfl (Nat.le_of_ble_eq_true rfl) (fun Γ e1 e2 e3 e4 e5 => by subst e1; subst e3; subst e4; subst e5; exact wMd_thrown e2 hl x0 S h)
/-! MatchPipeModel.clear()V -/
def yMd_clear : MethodName := ⟨"MatchPipeModel", "clear", "()V"⟩
def tMd_clear : tM := (prog_14_method_3_code, "MatchPipeModel", 2, "clear", none, [])
def rMd_clear : Room := { frames := 0, cells := 0, slots := 0, locals := 0 }
theorem kMd_clear : cOf yMd_clear tMd_clear ∈ gT := gT_in 1428 (by decide +kernel) rfl
theorem iMd_clear : Cond.initialized yMd_clear.cls ∈ gT := gT_in 68 (by decide +kernel) rfl
theorem mMd_clear : okM yMd_clear 0 := ⟨by decide, by decide, by unfold nPar; decide +kernel⟩
theorem nMd_clear : Cond.instanceMethod yMd_clear ∈ gT := gT_in 1426 (by decide +kernel) rfl
theorem lMd_clear : Cond.selects "MatchPipeModel" yMd_clear yMd_clear ∈ gT := gT_in 1427 (by decide +kernel) rfl
def fMd_clear_73  : Nat → Nat → Int32 → Sx → Option (Sx)
  | 0, _, _, _ => none
  | n + 1, x0, x1, S =>
    if (20 : Int32) ≤ x1 then
    ((pI S 12 47 x0 0).bind fun S1 =>
    (pI S1 12 48 x0 0).bind fun S3 =>
    (pI S3 12 49 x0 0).bind fun S5 =>
    (pI S5 12 50 x0 0).bind fun S7 =>
    (pI S7 12 51 x0 0).bind fun S9 =>
    (pI S9 12 52 x0 0).bind fun S11 =>
    (pI S11 12 53 x0 0).bind fun S13 =>
    (pI S13 12 54 x0 0).bind fun S15 =>
    (pI S15 12 55 x0 0).bind fun S17 =>
    (pI S17 12 56 x0 0).bind fun S19 =>
    some S19)
    else
    ((gX S 12 45 x0).bind fun v21 =>
    (qI S v21 x1 0).bind fun S23 =>
    fMd_clear_73 n x0 (x1 + 1) S23)
set_option maxRecDepth 100000 in
set_option maxHeartbeats 4000000 in
theorem wMd_clear_73 {Γ : vG} (hR : gR Γ = rMd_clear) (hl : (gl Γ).flags = pinnedFlags ++ [noTraceFlag]) {X : Sx}  : ∀ (n : Nat) (x0 : Nat) (x1 : Int32) (S : Sx), fMd_clear_73  n x0 x1 S = some X → vV Γ tMd_clear (mQ Γ 0 0 0 none X) S 0 0 73 [(0, .ref x0), (1, .int x1)] [] := by
  intro n
  induction n with
  | zero => intro x0 x1 S h; rw [fMd_clear_73] at h; cases h
  | succ n ih =>
    intro x0 x1 S h
    rw [fMd_clear_73] at h
    refine v_iload_n (pc := 73) (show decode (tC tMd_clear) 73 = .ok (.iload_n 1, 1) by decide +kernel) 1 rfl rfl ?_
    refine v_bipush (pc := 74) (v := 20) (show decode (tC tMd_clear) 74 = .ok (.bipush 20, 2) by decide +kernel) (by decide) ?_
    refine v_icmp_ge (pc := 76) 92 (show decode (tC tMd_clear) 76 = .ok (.if_icmp .ge 16, 3) by decide +kernel) (by decide) (fun c => ?_) (fun c => ?_)
    · replace h := ite_t c h
      refine v_aload_n (pc := 92) (show decode (tC tMd_clear) 92 = .ok (.aload_n 0, 1) by decide +kernel) 0 rfl rfl ?_
      refine v_iconst (pc := 93) (v := 0) (show decode (tC tMd_clear) 93 = .ok (.iconst 0, 1) by decide +kernel) (by decide) ?_
      obtain ⟨S1, e2, h⟩ := ob h
      refine v_putI (pc := 94) oF_Md_211 (fin_ok (kd := 12) (k := 47) (by decide +kernel)) e2 (show decode (tC tMd_clear) 94 = .ok (.putfield 211, 3) by decide +kernel) ?_
      refine v_aload_n (pc := 97) (show decode (tC tMd_clear) 97 = .ok (.aload_n 0, 1) by decide +kernel) 0 rfl rfl ?_
      refine v_iconst (pc := 98) (v := 0) (show decode (tC tMd_clear) 98 = .ok (.iconst 0, 1) by decide +kernel) (by decide) ?_
      obtain ⟨S3, e4, h⟩ := ob h
      refine v_putI (pc := 99) oF_Md_214 (fin_ok (kd := 12) (k := 48) (by decide +kernel)) e4 (show decode (tC tMd_clear) 99 = .ok (.putfield 214, 3) by decide +kernel) ?_
      refine v_aload_n (pc := 102) (show decode (tC tMd_clear) 102 = .ok (.aload_n 0, 1) by decide +kernel) 0 rfl rfl ?_
      refine v_iconst (pc := 103) (v := 0) (show decode (tC tMd_clear) 103 = .ok (.iconst 0, 1) by decide +kernel) (by decide) ?_
      obtain ⟨S5, e6, h⟩ := ob h
      refine v_putI (pc := 104) oF_Md_217 (fin_ok (kd := 12) (k := 49) (by decide +kernel)) e6 (show decode (tC tMd_clear) 104 = .ok (.putfield 217, 3) by decide +kernel) ?_
      refine v_aload_n (pc := 107) (show decode (tC tMd_clear) 107 = .ok (.aload_n 0, 1) by decide +kernel) 0 rfl rfl ?_
      refine v_iconst (pc := 108) (v := 0) (show decode (tC tMd_clear) 108 = .ok (.iconst 0, 1) by decide +kernel) (by decide) ?_
      obtain ⟨S7, e8, h⟩ := ob h
      refine v_putI (pc := 109) oF_Md_220 (fin_ok (kd := 12) (k := 50) (by decide +kernel)) e8 (show decode (tC tMd_clear) 109 = .ok (.putfield 220, 3) by decide +kernel) ?_
      refine v_aload_n (pc := 112) (show decode (tC tMd_clear) 112 = .ok (.aload_n 0, 1) by decide +kernel) 0 rfl rfl ?_
      refine v_iconst (pc := 113) (v := 0) (show decode (tC tMd_clear) 113 = .ok (.iconst 0, 1) by decide +kernel) (by decide) ?_
      obtain ⟨S9, e10, h⟩ := ob h
      refine v_putI (pc := 114) oF_Md_223 (fin_ok (kd := 12) (k := 51) (by decide +kernel)) e10 (show decode (tC tMd_clear) 114 = .ok (.putfield 223, 3) by decide +kernel) ?_
      refine v_aload_n (pc := 117) (show decode (tC tMd_clear) 117 = .ok (.aload_n 0, 1) by decide +kernel) 0 rfl rfl ?_
      refine v_iconst (pc := 118) (v := 0) (show decode (tC tMd_clear) 118 = .ok (.iconst 0, 1) by decide +kernel) (by decide) ?_
      obtain ⟨S11, e12, h⟩ := ob h
      refine v_putI (pc := 119) oF_Md_226 (fin_ok (kd := 12) (k := 52) (by decide +kernel)) e12 (show decode (tC tMd_clear) 119 = .ok (.putfield 226, 3) by decide +kernel) ?_
      refine v_aload_n (pc := 122) (show decode (tC tMd_clear) 122 = .ok (.aload_n 0, 1) by decide +kernel) 0 rfl rfl ?_
      refine v_iconst (pc := 123) (v := 0) (show decode (tC tMd_clear) 123 = .ok (.iconst 0, 1) by decide +kernel) (by decide) ?_
      obtain ⟨S13, e14, h⟩ := ob h
      refine v_putI (pc := 124) oF_Md_229 (fin_ok (kd := 12) (k := 53) (by decide +kernel)) e14 (show decode (tC tMd_clear) 124 = .ok (.putfield 229, 3) by decide +kernel) ?_
      refine v_aload_n (pc := 127) (show decode (tC tMd_clear) 127 = .ok (.aload_n 0, 1) by decide +kernel) 0 rfl rfl ?_
      refine v_iconst (pc := 128) (v := 0) (show decode (tC tMd_clear) 128 = .ok (.iconst 0, 1) by decide +kernel) (by decide) ?_
      obtain ⟨S15, e16, h⟩ := ob h
      refine v_putI (pc := 129) oF_Md_232 (fin_ok (kd := 12) (k := 54) (by decide +kernel)) e16 (show decode (tC tMd_clear) 129 = .ok (.putfield 232, 3) by decide +kernel) ?_
      refine v_aload_n (pc := 132) (show decode (tC tMd_clear) 132 = .ok (.aload_n 0, 1) by decide +kernel) 0 rfl rfl ?_
      refine v_iconst (pc := 133) (v := 0) (show decode (tC tMd_clear) 133 = .ok (.iconst 0, 1) by decide +kernel) (by decide) ?_
      obtain ⟨S17, e18, h⟩ := ob h
      refine v_putI (pc := 134) oF_Md_235 (fin_ok (kd := 12) (k := 55) (by decide +kernel)) e18 (show decode (tC tMd_clear) 134 = .ok (.putfield 235, 3) by decide +kernel) ?_
      refine v_aload_n (pc := 137) (show decode (tC tMd_clear) 137 = .ok (.aload_n 0, 1) by decide +kernel) 0 rfl rfl ?_
      refine v_iconst (pc := 138) (v := 0) (show decode (tC tMd_clear) 138 = .ok (.iconst 0, 1) by decide +kernel) (by decide) ?_
      obtain ⟨S19, e20, h⟩ := ob h
      refine v_putI (pc := 139) oF_Md_238 (fin_ok (kd := 12) (k := 56) (by decide +kernel)) e20 (show decode (tC tMd_clear) 139 = .ok (.putfield 238, 3) by decide +kernel) ?_
      obtain rfl := Option.some.inj h
      refine v_wide (ce2 := 0) (sl2 := 0) (by decide) (by decide) ?_
      exact v_vret (pc := 142) rfl (show decode (tC tMd_clear) 142 = .ok (.return_, 1) by decide +kernel)
    · replace h := ite_f c h
      refine v_aload_n (pc := 79) (show decode (tC tMd_clear) 79 = .ok (.aload_n 0, 1) by decide +kernel) 0 rfl rfl ?_
      obtain ⟨v21, e22, h⟩ := ob h
      refine v_getX (pc := 80) oF_Md_119 e22 (show decode (tC tMd_clear) 80 = .ok (.getfield 119, 3) by decide +kernel) ?_
      refine v_iload_n (pc := 83) (show decode (tC tMd_clear) 83 = .ok (.iload_n 1, 1) by decide +kernel) 1 rfl rfl ?_
      refine v_iconst (pc := 84) (v := 0) (show decode (tC tMd_clear) 84 = .ok (.iconst 0, 1) by decide +kernel) (by decide) ?_
      obtain ⟨S23, e24, h⟩ := ob h
      refine v_iast (pc := 85) e24 (show decode (tC tMd_clear) 85 = .ok (.iastore, 1) by decide +kernel) ?_
      refine v_iinc (pc := 86) (j := 1) [(1, .int (x1 + 1)), (0, .ref x0)] (show decode (tC tMd_clear) 86 = .ok (.iinc 1 1, 3) by decide +kernel) rfl rfl (by decide) rfl ?_
      refine v_goto (pc := 89) 73 (show decode (tC tMd_clear) 89 = .ok (.goto (-16), 3) by decide +kernel) (by decide) ?_
      refine v_sub [(0, .ref x0), (1, .int (x1 + 1))] [1, 0] rfl ?_
      exact ih x0 (x1 + 1) S23 h
def fMd_clear_52  : Nat → Nat → Int32 → Sx → Option (Sx)
  | 0, _, _, _ => none
  | n + 1, x0, x1, S =>
    if (64 : Int32) ≤ x1 then
    (fMd_clear_73  fuel x0 0 S)
    else
    ((gX S 12 44 x0).bind fun v1 =>
    (qI S v1 x1 0).bind fun S3 =>
    fMd_clear_52 n x0 (x1 + 1) S3)
set_option maxRecDepth 100000 in
set_option maxHeartbeats 4000000 in
theorem wMd_clear_52 {Γ : vG} (hR : gR Γ = rMd_clear) (hl : (gl Γ).flags = pinnedFlags ++ [noTraceFlag]) {X : Sx}  : ∀ (n : Nat) (x0 : Nat) (x1 : Int32) (S : Sx), fMd_clear_52  n x0 x1 S = some X → vV Γ tMd_clear (mQ Γ 0 0 0 none X) S 0 0 52 [(0, .ref x0), (1, .int x1)] [] := by
  intro n
  induction n with
  | zero => intro x0 x1 S h; rw [fMd_clear_52] at h; cases h
  | succ n ih =>
    intro x0 x1 S h
    rw [fMd_clear_52] at h
    refine v_iload_n (pc := 52) (show decode (tC tMd_clear) 52 = .ok (.iload_n 1, 1) by decide +kernel) 1 rfl rfl ?_
    refine v_bipush (pc := 53) (v := 64) (show decode (tC tMd_clear) 53 = .ok (.bipush 64, 2) by decide +kernel) (by decide) ?_
    refine v_icmp_ge (pc := 55) 71 (show decode (tC tMd_clear) 55 = .ok (.if_icmp .ge 16, 3) by decide +kernel) (by decide) (fun c => ?_) (fun c => ?_)
    · replace h := ite_t c h
      refine v_iconst (pc := 71) (v := 0) (show decode (tC tMd_clear) 71 = .ok (.iconst 0, 1) by decide +kernel) (by decide) ?_
      refine v_istore_n (pc := 72) [(1, .int 0), (0, .ref x0)] (show decode (tC tMd_clear) 72 = .ok (.istore_n 1, 1) by decide +kernel) rfl (by decide) rfl ?_
      refine v_sub [(0, .ref x0), (1, .int 0)] [1, 0] rfl ?_
      exact wMd_clear_73 hR hl  fuel x0 0 S h
    · replace h := ite_f c h
      refine v_aload_n (pc := 58) (show decode (tC tMd_clear) 58 = .ok (.aload_n 0, 1) by decide +kernel) 0 rfl rfl ?_
      obtain ⟨v1, e2, h⟩ := ob h
      refine v_getX (pc := 59) oF_Md_116 e2 (show decode (tC tMd_clear) 59 = .ok (.getfield 116, 3) by decide +kernel) ?_
      refine v_iload_n (pc := 62) (show decode (tC tMd_clear) 62 = .ok (.iload_n 1, 1) by decide +kernel) 1 rfl rfl ?_
      refine v_iconst (pc := 63) (v := 0) (show decode (tC tMd_clear) 63 = .ok (.iconst 0, 1) by decide +kernel) (by decide) ?_
      obtain ⟨S3, e4, h⟩ := ob h
      refine v_iast (pc := 64) e4 (show decode (tC tMd_clear) 64 = .ok (.iastore, 1) by decide +kernel) ?_
      refine v_iinc (pc := 65) (j := 1) [(1, .int (x1 + 1)), (0, .ref x0)] (show decode (tC tMd_clear) 65 = .ok (.iinc 1 1, 3) by decide +kernel) rfl rfl (by decide) rfl ?_
      refine v_goto (pc := 68) 52 (show decode (tC tMd_clear) 68 = .ok (.goto (-16), 3) by decide +kernel) (by decide) ?_
      refine v_sub [(0, .ref x0), (1, .int (x1 + 1))] [1, 0] rfl ?_
      exact ih x0 (x1 + 1) S3 h
def fMd_clear (x0 : Nat) (S : Sx) : Option (Sx) :=
    (pI S 12 0 x0 0).bind fun S1 =>
    (pI S1 12 1 x0 0).bind fun S3 =>
    (pI S3 12 2 x0 0).bind fun S5 =>
    (pI S5 12 3 x0 0).bind fun S7 =>
    (pI S7 12 4 x0 0).bind fun S9 =>
    (pI S9 12 5 x0 0).bind fun S11 =>
    (pI S11 12 6 x0 0).bind fun S13 =>
    (pZ S13 12 7 x0 0).bind fun S15 =>
    (pI S15 12 33 x0 0).bind fun S17 =>
    (pI S17 12 34 x0 (-1)).bind fun S19 =>
    fMd_clear_52  fuel x0 0 S19
set_option maxRecDepth 100000 in
set_option maxHeartbeats 4000000 in
theorem wMd_clear {Γ : vG} (hR : gR Γ = rMd_clear) (hl : (gl Γ).flags = pinnedFlags ++ [noTraceFlag]) (x0 : Nat) (S : Sx) {X : Sx} (h : fMd_clear x0 S = some X) : vV Γ tMd_clear (mQ Γ 0 0 0 none X) S 0 0 0 [(0, .ref x0)] [] := by
  unfold fMd_clear at h
  refine v_aload_n (pc := 0) (show decode (tC tMd_clear) 0 = .ok (.aload_n 0, 1) by decide +kernel) 0 rfl rfl ?_
  refine v_iconst (pc := 1) (v := 0) (show decode (tC tMd_clear) 1 = .ok (.iconst 0, 1) by decide +kernel) (by decide) ?_
  obtain ⟨S1, e2, h⟩ := ob h
  refine v_putI (pc := 2) oF_Md_183 (fin_ok (kd := 12) (k := 0) (by decide +kernel)) e2 (show decode (tC tMd_clear) 2 = .ok (.putfield 183, 3) by decide +kernel) ?_
  refine v_aload_n (pc := 5) (show decode (tC tMd_clear) 5 = .ok (.aload_n 0, 1) by decide +kernel) 0 rfl rfl ?_
  refine v_iconst (pc := 6) (v := 0) (show decode (tC tMd_clear) 6 = .ok (.iconst 0, 1) by decide +kernel) (by decide) ?_
  obtain ⟨S3, e4, h⟩ := ob h
  refine v_putI (pc := 7) oF_Md_186 (fin_ok (kd := 12) (k := 1) (by decide +kernel)) e4 (show decode (tC tMd_clear) 7 = .ok (.putfield 186, 3) by decide +kernel) ?_
  refine v_aload_n (pc := 10) (show decode (tC tMd_clear) 10 = .ok (.aload_n 0, 1) by decide +kernel) 0 rfl rfl ?_
  refine v_iconst (pc := 11) (v := 0) (show decode (tC tMd_clear) 11 = .ok (.iconst 0, 1) by decide +kernel) (by decide) ?_
  obtain ⟨S5, e6, h⟩ := ob h
  refine v_putI (pc := 12) oF_Md_189 (fin_ok (kd := 12) (k := 2) (by decide +kernel)) e6 (show decode (tC tMd_clear) 12 = .ok (.putfield 189, 3) by decide +kernel) ?_
  refine v_aload_n (pc := 15) (show decode (tC tMd_clear) 15 = .ok (.aload_n 0, 1) by decide +kernel) 0 rfl rfl ?_
  refine v_iconst (pc := 16) (v := 0) (show decode (tC tMd_clear) 16 = .ok (.iconst 0, 1) by decide +kernel) (by decide) ?_
  obtain ⟨S7, e8, h⟩ := ob h
  refine v_putI (pc := 17) oF_Md_192 (fin_ok (kd := 12) (k := 3) (by decide +kernel)) e8 (show decode (tC tMd_clear) 17 = .ok (.putfield 192, 3) by decide +kernel) ?_
  refine v_aload_n (pc := 20) (show decode (tC tMd_clear) 20 = .ok (.aload_n 0, 1) by decide +kernel) 0 rfl rfl ?_
  refine v_iconst (pc := 21) (v := 0) (show decode (tC tMd_clear) 21 = .ok (.iconst 0, 1) by decide +kernel) (by decide) ?_
  obtain ⟨S9, e10, h⟩ := ob h
  refine v_putI (pc := 22) oF_Md_195 (fin_ok (kd := 12) (k := 4) (by decide +kernel)) e10 (show decode (tC tMd_clear) 22 = .ok (.putfield 195, 3) by decide +kernel) ?_
  refine v_aload_n (pc := 25) (show decode (tC tMd_clear) 25 = .ok (.aload_n 0, 1) by decide +kernel) 0 rfl rfl ?_
  refine v_iconst (pc := 26) (v := 0) (show decode (tC tMd_clear) 26 = .ok (.iconst 0, 1) by decide +kernel) (by decide) ?_
  obtain ⟨S11, e12, h⟩ := ob h
  refine v_putI (pc := 27) oF_Md_198 (fin_ok (kd := 12) (k := 5) (by decide +kernel)) e12 (show decode (tC tMd_clear) 27 = .ok (.putfield 198, 3) by decide +kernel) ?_
  refine v_aload_n (pc := 30) (show decode (tC tMd_clear) 30 = .ok (.aload_n 0, 1) by decide +kernel) 0 rfl rfl ?_
  refine v_iconst (pc := 31) (v := 0) (show decode (tC tMd_clear) 31 = .ok (.iconst 0, 1) by decide +kernel) (by decide) ?_
  obtain ⟨S13, e14, h⟩ := ob h
  refine v_putI (pc := 32) oF_Md_201 (fin_ok (kd := 12) (k := 6) (by decide +kernel)) e14 (show decode (tC tMd_clear) 32 = .ok (.putfield 201, 3) by decide +kernel) ?_
  refine v_aload_n (pc := 35) (show decode (tC tMd_clear) 35 = .ok (.aload_n 0, 1) by decide +kernel) 0 rfl rfl ?_
  refine v_iconst (pc := 36) (v := 0) (show decode (tC tMd_clear) 36 = .ok (.iconst 0, 1) by decide +kernel) (by decide) ?_
  obtain ⟨S15, e16, h⟩ := ob h
  refine v_putZ (pc := 37) oF_Md_204 (fin_ok (kd := 12) (k := 7) (by decide +kernel)) e16 (show decode (tC tMd_clear) 37 = .ok (.putfield 204, 3) by decide +kernel) ?_
  refine v_aload_n (pc := 40) (show decode (tC tMd_clear) 40 = .ok (.aload_n 0, 1) by decide +kernel) 0 rfl rfl ?_
  refine v_iconst (pc := 41) (v := 0) (show decode (tC tMd_clear) 41 = .ok (.iconst 0, 1) by decide +kernel) (by decide) ?_
  obtain ⟨S17, e18, h⟩ := ob h
  refine v_putI (pc := 42) oF_Md_208 (fin_ok (kd := 12) (k := 33) (by decide +kernel)) e18 (show decode (tC tMd_clear) 42 = .ok (.putfield 208, 3) by decide +kernel) ?_
  refine v_aload_n (pc := 45) (show decode (tC tMd_clear) 45 = .ok (.aload_n 0, 1) by decide +kernel) 0 rfl rfl ?_
  refine v_iconst (pc := 46) (v := (-1)) (show decode (tC tMd_clear) 46 = .ok (.iconst (-1), 1) by decide +kernel) (by decide) ?_
  obtain ⟨S19, e20, h⟩ := ob h
  refine v_putI (pc := 47) oF_Md_85 (fin_ok (kd := 12) (k := 34) (by decide +kernel)) e20 (show decode (tC tMd_clear) 47 = .ok (.putfield 85, 3) by decide +kernel) ?_
  refine v_iconst (pc := 50) (v := 0) (show decode (tC tMd_clear) 50 = .ok (.iconst 0, 1) by decide +kernel) (by decide) ?_
  refine v_istore_n (pc := 51) [(1, .int 0), (0, .ref x0)] (show decode (tC tMd_clear) 51 = .ok (.istore_n 1, 1) by decide +kernel) rfl (by decide) rfl ?_
  refine v_sub [(0, .ref x0), (1, .int 0)] [1, 0] rfl ?_
  exact wMd_clear_52 hR hl  fuel x0 0 S19 h
theorem cMd_clear {l : Launch} (hl : l.flags = pinnedFlags ++ [noTraceFlag]) {D : va_G} {dA : Nat → ClassId} {B : Nat} {x0 : Nat} {S : Sx} {X : Sx} (h : fMd_clear x0 S = some X) : Mx l yMd_clear tMd_clear rMd_clear 0 0 D dA B S [.ref x0] 0 none X :=
  mx_of hl (by decide) rfl rfl (Nat.le_of_ble_eq_true rfl) (fun Γ e1 e2 e3 e4 e5 => by subst e1; subst e3; subst e4; subst e5; exact wMd_clear e2 hl x0 S h)
/-! MatchPipeModel.field(I)I -/
def yMd_field : MethodName := ⟨"MatchPipeModel", "field", "(I)I"⟩
def tMd_field : tM := (prog_14_method_5_code, "MatchPipeModel", 2, "field", some .int, [])
def rMd_field : Room := { frames := 0, cells := 0, slots := 0, locals := 0 }
theorem kMd_field : cOf yMd_field tMd_field ∈ gT := gT_in 1432 (by decide +kernel) rfl
theorem iMd_field : Cond.initialized yMd_field.cls ∈ gT := gT_in 68 (by decide +kernel) rfl
theorem mMd_field : okM yMd_field 1 := ⟨by decide, by decide, by unfold nPar; decide +kernel⟩
theorem nMd_field : Cond.instanceMethod yMd_field ∈ gT := gT_in 1430 (by decide +kernel) rfl
theorem lMd_field : Cond.selects "MatchPipeModel" yMd_field yMd_field ∈ gT := gT_in 1431 (by decide +kernel) rfl
def fMd_field_37  (x0 : Nat) (x1 : Int32) (z0 : Int32) (z1 : Nat) (S : Sx) : Option (Int32 × Sx) :=
    (pI S 12 0 z1 z0).bind fun S1 =>
    (gI S1 12 0 x0).bind fun v3 =>
    if v3 ≤ 0 then
    ((gX S1 12 8 x0).bind fun v5 =>
    (gI S1 12 1 x0).bind fun v7 =>
    (qI S1 v5 v7 x1).bind fun S9 =>
    (gI S9 12 1 x0).bind fun v11 =>
    (pI S9 12 1 x0 (v11 + 1)).bind fun S13 =>
    (gI S13 12 1 x0).bind fun v15 =>
    some (v15 - 1, S13))
    else
    (some (0, S1))
set_option maxRecDepth 100000 in
set_option maxHeartbeats 4000000 in
theorem wMd_field_37 {Γ : vG} (hR : gR Γ = rMd_field) (hl : (gl Γ).flags = pinnedFlags ++ [noTraceFlag]) {X : Int32 × Sx}  : ∀ (x0 : Nat) (x1 : Int32) (z0 : Int32) (z1 : Nat) (S : Sx), fMd_field_37  x0 x1 z0 z1 S = some X → vV Γ tMd_field (mQ Γ 0 0 0 (some (.int X.1)) X.2) S 0 0 37 [(0, .ref x0), (1, .int x1)] [.int z0, .ref z1] := by
  intro x0 x1 z0 z1 S h
  unfold fMd_field_37 at h
  obtain ⟨S1, e2, h⟩ := ob h
  refine v_putI (pc := 37) oF_Md_183 (fin_ok (kd := 12) (k := 0) (by decide +kernel)) e2 (show decode (tC tMd_field) 37 = .ok (.putfield 183, 3) by decide +kernel) ?_
  refine v_aload_n (pc := 40) (show decode (tC tMd_field) 40 = .ok (.aload_n 0, 1) by decide +kernel) 0 rfl rfl ?_
  obtain ⟨v3, e4, h⟩ := ob h
  refine v_getI (pc := 41) oF_Md_183 (by decide) e4 (show decode (tC tMd_field) 41 = .ok (.getfield 183, 3) by decide +kernel) ?_
  refine v_if_le (pc := 44) 49 (show decode (tC tMd_field) 44 = .ok (.ifCond .le 5, 3) by decide +kernel) (by decide) (fun c => ?_) (fun c => ?_)
  · replace h := ite_t c h
    refine v_aload_n (pc := 49) (show decode (tC tMd_field) 49 = .ok (.aload_n 0, 1) by decide +kernel) 0 rfl rfl ?_
    obtain ⟨v5, e6, h⟩ := ob h
    refine v_getX (pc := 50) oF_Md_7 e6 (show decode (tC tMd_field) 50 = .ok (.getfield 7, 3) by decide +kernel) ?_
    refine v_aload_n (pc := 53) (show decode (tC tMd_field) 53 = .ok (.aload_n 0, 1) by decide +kernel) 0 rfl rfl ?_
    obtain ⟨v7, e8, h⟩ := ob h
    refine v_getI (pc := 54) oF_Md_186 (by decide) e8 (show decode (tC tMd_field) 54 = .ok (.getfield 186, 3) by decide +kernel) ?_
    refine v_iload_n (pc := 57) (show decode (tC tMd_field) 57 = .ok (.iload_n 1, 1) by decide +kernel) 1 rfl rfl ?_
    obtain ⟨S9, e10, h⟩ := ob h
    refine v_iast (pc := 58) e10 (show decode (tC tMd_field) 58 = .ok (.iastore, 1) by decide +kernel) ?_
    refine v_aload_n (pc := 59) (show decode (tC tMd_field) 59 = .ok (.aload_n 0, 1) by decide +kernel) 0 rfl rfl ?_
    refine v_dup (pc := 60) (show decode (tC tMd_field) 60 = .ok (.dup, 1) by decide +kernel) rfl ?_
    obtain ⟨v11, e12, h⟩ := ob h
    refine v_getI (pc := 61) oF_Md_186 (by decide) e12 (show decode (tC tMd_field) 61 = .ok (.getfield 186, 3) by decide +kernel) ?_
    refine v_iconst (pc := 64) (v := 1) (show decode (tC tMd_field) 64 = .ok (.iconst 1, 1) by decide +kernel) (by decide) ?_
    refine v_iadd (pc := 65) (show decode (tC tMd_field) 65 = .ok (.iadd, 1) by decide +kernel) ?_
    obtain ⟨S13, e14, h⟩ := ob h
    refine v_putI (pc := 66) oF_Md_186 (fin_ok (kd := 12) (k := 1) (by decide +kernel)) e14 (show decode (tC tMd_field) 66 = .ok (.putfield 186, 3) by decide +kernel) ?_
    refine v_aload_n (pc := 69) (show decode (tC tMd_field) 69 = .ok (.aload_n 0, 1) by decide +kernel) 0 rfl rfl ?_
    obtain ⟨v15, e16, h⟩ := ob h
    refine v_getI (pc := 70) oF_Md_186 (by decide) e16 (show decode (tC tMd_field) 70 = .ok (.getfield 186, 3) by decide +kernel) ?_
    refine v_iconst (pc := 73) (v := 1) (show decode (tC tMd_field) 73 = .ok (.iconst 1, 1) by decide +kernel) (by decide) ?_
    refine v_isub (pc := 74) (show decode (tC tMd_field) 74 = .ok (.isub, 1) by decide +kernel) ?_
    obtain rfl := Option.some.inj h
    refine v_wide (ce2 := 0) (sl2 := 0) (by decide) (by decide) ?_
    exact v_iret (pc := 75) rfl (show decode (tC tMd_field) 75 = .ok (.ireturn, 1) by decide +kernel)
  · replace h := ite_f c h
    refine v_iconst (pc := 47) (v := 0) (show decode (tC tMd_field) 47 = .ok (.iconst 0, 1) by decide +kernel) (by decide) ?_
    obtain rfl := Option.some.inj h
    refine v_wide (ce2 := 0) (sl2 := 0) (by decide) (by decide) ?_
    exact v_iret (pc := 48) rfl (show decode (tC tMd_field) 48 = .ok (.ireturn, 1) by decide +kernel)
def fMd_field_12  (x0 : Nat) (x1 : Int32) (z0 : Nat) (S : Sx) : Option (Int32 × Sx) :=
    fMd_field_37  x0 x1 1 z0 S
set_option maxRecDepth 100000 in
set_option maxHeartbeats 4000000 in
theorem wMd_field_12 {Γ : vG} (hR : gR Γ = rMd_field) (hl : (gl Γ).flags = pinnedFlags ++ [noTraceFlag]) {X : Int32 × Sx}  : ∀ (x0 : Nat) (x1 : Int32) (z0 : Nat) (S : Sx), fMd_field_12  x0 x1 z0 S = some X → vV Γ tMd_field (mQ Γ 0 0 0 (some (.int X.1)) X.2) S 0 0 12 [(0, .ref x0), (1, .int x1)] [.ref z0] := by
  intro x0 x1 z0 S h
  unfold fMd_field_12 at h
  refine v_iconst (pc := 12) (v := 1) (show decode (tC tMd_field) 12 = .ok (.iconst 1, 1) by decide +kernel) (by decide) ?_
  refine v_goto (pc := 13) 37 (show decode (tC tMd_field) 13 = .ok (.goto 24, 3) by decide +kernel) (by decide) ?_
  exact wMd_field_37 hR hl  x0 x1 1 z0 S h
def fMd_field_32  (x0 : Nat) (x1 : Int32) (z0 : Nat) (S : Sx) : Option (Int32 × Sx) :=
    fMd_field_37  x0 x1 2 z0 S
set_option maxRecDepth 100000 in
set_option maxHeartbeats 4000000 in
theorem wMd_field_32 {Γ : vG} (hR : gR Γ = rMd_field) (hl : (gl Γ).flags = pinnedFlags ++ [noTraceFlag]) {X : Int32 × Sx}  : ∀ (x0 : Nat) (x1 : Int32) (z0 : Nat) (S : Sx), fMd_field_32  x0 x1 z0 S = some X → vV Γ tMd_field (mQ Γ 0 0 0 (some (.int X.1)) X.2) S 0 0 32 [(0, .ref x0), (1, .int x1)] [.ref z0] := by
  intro x0 x1 z0 S h
  unfold fMd_field_32 at h
  refine v_iconst (pc := 32) (v := 2) (show decode (tC tMd_field) 32 = .ok (.iconst 2, 1) by decide +kernel) (by decide) ?_
  refine v_goto (pc := 33) 37 (show decode (tC tMd_field) 33 = .ok (.goto 4, 3) by decide +kernel) (by decide) ?_
  exact wMd_field_37 hR hl  x0 x1 2 z0 S h
def fMd_field (x0 : Nat) (x1 : Int32) (S : Sx) : Option (Int32 × Sx) :=
    if x1 < 1 then
    (fMd_field_12  x0 x1 x0 S)
    else
    (if x1 ≤ 32 then
    ((gI S 12 1 x0).bind fun v1 =>
    if v1 = 16 then
    (fMd_field_32  x0 x1 x0 S)
    else
    ((gI S 12 7 x0).bind fun v3 =>
    if v3 = 0 then
    (fMd_field_37  x0 x1 0 x0 S)
    else
    (fMd_field_32  x0 x1 x0 S)))
    else
    (fMd_field_12  x0 x1 x0 S))
set_option maxRecDepth 100000 in
set_option maxHeartbeats 4000000 in
theorem wMd_field {Γ : vG} (hR : gR Γ = rMd_field) (hl : (gl Γ).flags = pinnedFlags ++ [noTraceFlag]) (x0 : Nat) (x1 : Int32) (S : Sx) {X : Int32 × Sx} (h : fMd_field x0 x1 S = some X) : vV Γ tMd_field (mQ Γ 0 0 0 (some (.int X.1)) X.2) S 0 0 0 [(0, .ref x0), (1, .int x1)] [] := by
  unfold fMd_field at h
  refine v_aload_n (pc := 0) (show decode (tC tMd_field) 0 = .ok (.aload_n 0, 1) by decide +kernel) 0 rfl rfl ?_
  refine v_iload_n (pc := 1) (show decode (tC tMd_field) 1 = .ok (.iload_n 1, 1) by decide +kernel) 1 rfl rfl ?_
  refine v_iconst (pc := 2) (v := 1) (show decode (tC tMd_field) 2 = .ok (.iconst 1, 1) by decide +kernel) (by decide) ?_
  refine v_icmp_lt (pc := 3) 12 (show decode (tC tMd_field) 3 = .ok (.if_icmp .lt 9, 3) by decide +kernel) (by decide) (fun c => ?_) (fun c => ?_)
  · replace h := ite_t c h
    exact wMd_field_12 hR hl  x0 x1 x0 S h
  · replace h := ite_f c h
    refine v_iload_n (pc := 6) (show decode (tC tMd_field) 6 = .ok (.iload_n 1, 1) by decide +kernel) 1 rfl rfl ?_
    refine v_bipush (pc := 7) (v := 32) (show decode (tC tMd_field) 7 = .ok (.bipush 32, 2) by decide +kernel) (by decide) ?_
    refine v_icmp_le (pc := 9) 16 (show decode (tC tMd_field) 9 = .ok (.if_icmp .le 7, 3) by decide +kernel) (by decide) (fun c => ?_) (fun c => ?_)
    · replace h := ite_t c h
      refine v_aload_n (pc := 16) (show decode (tC tMd_field) 16 = .ok (.aload_n 0, 1) by decide +kernel) 0 rfl rfl ?_
      obtain ⟨v1, e2, h⟩ := ob h
      refine v_getI (pc := 17) oF_Md_186 (by decide) e2 (show decode (tC tMd_field) 17 = .ok (.getfield 186, 3) by decide +kernel) ?_
      refine v_bipush (pc := 20) (v := 16) (show decode (tC tMd_field) 20 = .ok (.bipush 16, 2) by decide +kernel) (by decide) ?_
      refine v_icmp_eq (pc := 22) 32 (show decode (tC tMd_field) 22 = .ok (.if_icmp .eq 10, 3) by decide +kernel) (by decide) (fun c => ?_) (fun c => ?_)
      · replace h := ite_t c h
        exact wMd_field_32 hR hl  x0 x1 x0 S h
      · replace h := ite_f c h
        refine v_aload_n (pc := 25) (show decode (tC tMd_field) 25 = .ok (.aload_n 0, 1) by decide +kernel) 0 rfl rfl ?_
        obtain ⟨v3, e4, h⟩ := ob h
        refine v_getI (pc := 26) oF_Md_204 (by decide) e4 (show decode (tC tMd_field) 26 = .ok (.getfield 204, 3) by decide +kernel) ?_
        refine v_if_eq (pc := 29) 36 (show decode (tC tMd_field) 29 = .ok (.ifCond .eq 7, 3) by decide +kernel) (by decide) (fun c => ?_) (fun c => ?_)
        · replace h := ite_t c h
          refine v_iconst (pc := 36) (v := 0) (show decode (tC tMd_field) 36 = .ok (.iconst 0, 1) by decide +kernel) (by decide) ?_
          exact wMd_field_37 hR hl  x0 x1 0 x0 S h
        · replace h := ite_f c h
          exact wMd_field_32 hR hl  x0 x1 x0 S h
    · replace h := ite_f c h
      exact wMd_field_12 hR hl  x0 x1 x0 S h
theorem cMd_field {l : Launch} (hl : l.flags = pinnedFlags ++ [noTraceFlag]) {D : va_G} {dA : Nat → ClassId} {B : Nat} {x0 : Nat} {x1 : Int32} {S : Sx} {X : Int32 × Sx} (h : fMd_field x0 x1 S = some X) : Mx l yMd_field tMd_field rMd_field 0 0 D dA B S [.ref x0, .int x1] 0 (some (.int X.1)) X.2 :=
  mx_of hl (by decide) rfl rfl (Nat.le_of_ble_eq_true rfl) (fun Γ e1 e2 e3 e4 e5 => by subst e1; subst e3; subst e4; subst e5; exact wMd_field e2 hl x0 x1 S h)
/-! MatchPipeModel.in(II)Z -/
def yMd_in : MethodName := ⟨"MatchPipeModel", "in", "(II)Z"⟩
def tMd_in : tM := (prog_14_method_4_code, "MatchPipeModel", 2, "in", some .boolean, [])
def rMd_in : Room := { frames := 0, cells := 0, slots := 0, locals := 0 }
theorem kMd_in : cOf yMd_in tMd_in ∈ gT := gT_in 1439 (by decide +kernel) rfl
theorem iMd_in : Cond.initialized yMd_in.cls ∈ gT := gT_in 68 (by decide +kernel) rfl
theorem mMd_in : okM yMd_in 2 := ⟨by decide, by decide, by unfold nPar; decide +kernel⟩
theorem sMd_in : Cond.static yMd_in ∈ gT := gT_in 1438 (by decide +kernel) rfl
def fMd_in (x0 : Int32) (x1 : Int32) (S : Sx) : Option (Int32 × Sx) :=
    if x0 < 0 then
    (some (0, S))
    else
    (if x1 ≤ x0 then
    (some (0, S))
    else
    (some (1, S)))
set_option maxRecDepth 100000 in
set_option maxHeartbeats 4000000 in
theorem wMd_in {Γ : vG} (hR : gR Γ = rMd_in) (hl : (gl Γ).flags = pinnedFlags ++ [noTraceFlag]) (x0 : Int32) (x1 : Int32) (S : Sx) {X : Int32 × Sx} (h : fMd_in x0 x1 S = some X) : vV Γ tMd_in (mQ Γ 0 0 0 (some (.int X.1)) X.2) S 0 0 0 [(0, .int x0), (1, .int x1)] [] := by
  unfold fMd_in at h
  refine v_iload_n (pc := 0) (show decode (tC tMd_in) 0 = .ok (.iload_n 0, 1) by decide +kernel) 0 rfl rfl ?_
  refine v_if_lt (pc := 1) 13 (show decode (tC tMd_in) 1 = .ok (.ifCond .lt 12, 3) by decide +kernel) (by decide) (fun c => ?_) (fun c => ?_)
  · replace h := ite_t c h
    refine v_iconst (pc := 13) (v := 0) (show decode (tC tMd_in) 13 = .ok (.iconst 0, 1) by decide +kernel) (by decide) ?_
    obtain rfl := Option.some.inj h
    refine v_wide (ce2 := 0) (sl2 := 0) (by decide) (by decide) ?_
    exact v_zret (pc := 14) rfl (Or.inl rfl) (show decode (tC tMd_in) 14 = .ok (.ireturn, 1) by decide +kernel)
  · replace h := ite_f c h
    refine v_iload_n (pc := 4) (show decode (tC tMd_in) 4 = .ok (.iload_n 0, 1) by decide +kernel) 0 rfl rfl ?_
    refine v_iload_n (pc := 5) (show decode (tC tMd_in) 5 = .ok (.iload_n 1, 1) by decide +kernel) 1 rfl rfl ?_
    refine v_icmp_ge (pc := 6) 13 (show decode (tC tMd_in) 6 = .ok (.if_icmp .ge 7, 3) by decide +kernel) (by decide) (fun c => ?_) (fun c => ?_)
    · replace h := ite_t c h
      refine v_iconst (pc := 13) (v := 0) (show decode (tC tMd_in) 13 = .ok (.iconst 0, 1) by decide +kernel) (by decide) ?_
      obtain rfl := Option.some.inj h
      refine v_wide (ce2 := 0) (sl2 := 0) (by decide) (by decide) ?_
      exact v_zret (pc := 14) rfl (Or.inl rfl) (show decode (tC tMd_in) 14 = .ok (.ireturn, 1) by decide +kernel)
    · replace h := ite_f c h
      refine v_iconst (pc := 9) (v := 1) (show decode (tC tMd_in) 9 = .ok (.iconst 1, 1) by decide +kernel) (by decide) ?_
      refine v_goto (pc := 10) 14 (show decode (tC tMd_in) 10 = .ok (.goto 4, 3) by decide +kernel) (by decide) ?_
      obtain rfl := Option.some.inj h
      refine v_wide (ce2 := 0) (sl2 := 0) (by decide) (by decide) ?_
      exact v_zret (pc := 14) rfl (Or.inr rfl) (show decode (tC tMd_in) 14 = .ok (.ireturn, 1) by decide +kernel)
theorem cMd_in {l : Launch} (hl : l.flags = pinnedFlags ++ [noTraceFlag]) {D : va_G} {dA : Nat → ClassId} {B : Nat} {x0 : Int32} {x1 : Int32} {S : Sx} {X : Int32 × Sx} (h : fMd_in x0 x1 S = some X) : Mx l yMd_in tMd_in rMd_in 0 0 D dA B S [.int x0, .int x1] 0 (some (.int X.1)) X.2 :=
  mx_of hl (by decide) rfl rfl (Nat.le_of_ble_eq_true rfl) (fun Γ e1 e2 e3 e4 e5 => by subst e1; subst e3; subst e4; subst e5; exact wMd_in e2 hl x0 x1 S h)
/-! MatchPipeModel.state(IIIII)I -/
def yMd_state : MethodName := ⟨"MatchPipeModel", "state", "(IIIII)I"⟩
def tMd_state : tM := (prog_14_method_6_code, "MatchPipeModel", 9, "state", some .int, [])
def rMd_state : Room := { frames := 1, cells := 0, slots := 0, locals := 21 }
theorem kMd_state : cOf yMd_state tMd_state ∈ gT := gT_in 1436 (by decide +kernel) rfl
theorem iMd_state : Cond.initialized yMd_state.cls ∈ gT := gT_in 68 (by decide +kernel) rfl
theorem mMd_state : okM yMd_state 5 := ⟨by decide, by decide, by unfold nPar; decide +kernel⟩
theorem nMd_state : Cond.instanceMethod yMd_state ∈ gT := gT_in 1434 (by decide +kernel) rfl
theorem lMd_state : Cond.selects "MatchPipeModel" yMd_state yMd_state ∈ gT := gT_in 1435 (by decide +kernel) rfl
def fMd_state_262  (x0 : Nat) (x5 : Int32) (z0 : Int32) (z1 : Int32) (z2 : Nat) (S : Sx) : Option (Int32 × Sx) :=
    (qI S z2 z1 z0).bind fun S1 =>
    (gX S1 12 10 x0).bind fun v3 =>
    (gI S1 12 2 x0).bind fun v5 =>
    (qI S1 v3 v5 x5).bind fun S7 =>
    (gX S7 12 11 x0).bind fun v9 =>
    (gI S7 12 2 x0).bind fun v11 =>
    (qI S7 v9 v11 0).bind fun S13 =>
    (gX S13 12 15 x0).bind fun v15 =>
    (gI S13 12 2 x0).bind fun v17 =>
    (qI S13 v15 v17 (-1)).bind fun S19 =>
    (gI S19 12 2 x0).bind fun v21 =>
    (pI S19 12 2 x0 (v21 + 1)).bind fun S23 =>
    (gI S23 12 2 x0).bind fun v25 =>
    some (v25 - 1, S23)
set_option maxRecDepth 100000 in
set_option maxHeartbeats 4000000 in
theorem wMd_state_262 {Γ : vG} (hR : gR Γ = rMd_state) (hl : (gl Γ).flags = pinnedFlags ++ [noTraceFlag]) {X : Int32 × Sx}  : ∀ (x0 : Nat) (x5 : Int32) (z0 : Int32) (z1 : Int32) (z2 : Nat) (S : Sx), fMd_state_262  x0 x5 z0 z1 z2 S = some X → vV Γ tMd_state (mQ Γ 0 0 0 (some (.int X.1)) X.2) S 0 0 262 [(0, .ref x0), (5, .int x5)] [.int z0, .int z1, .ref z2] := by
  intro x0 x5 z0 z1 z2 S h
  unfold fMd_state_262 at h
  obtain ⟨S1, e2, h⟩ := ob h
  refine v_iast (pc := 262) e2 (show decode (tC tMd_state) 262 = .ok (.iastore, 1) by decide +kernel) ?_
  refine v_aload_n (pc := 263) (show decode (tC tMd_state) 263 = .ok (.aload_n 0, 1) by decide +kernel) 0 rfl rfl ?_
  obtain ⟨v3, e4, h⟩ := ob h
  refine v_getX (pc := 264) oF_Md_16 e4 (show decode (tC tMd_state) 264 = .ok (.getfield 16, 3) by decide +kernel) ?_
  refine v_aload_n (pc := 267) (show decode (tC tMd_state) 267 = .ok (.aload_n 0, 1) by decide +kernel) 0 rfl rfl ?_
  obtain ⟨v5, e6, h⟩ := ob h
  refine v_getI (pc := 268) oF_Md_189 (by decide) e6 (show decode (tC tMd_state) 268 = .ok (.getfield 189, 3) by decide +kernel) ?_
  refine v_iload (pc := 271) (show decode (tC tMd_state) 271 = .ok (.iload 5, 2) by decide +kernel) 1 rfl ?_
  obtain ⟨S7, e8, h⟩ := ob h
  refine v_iast (pc := 273) e8 (show decode (tC tMd_state) 273 = .ok (.iastore, 1) by decide +kernel) ?_
  refine v_aload_n (pc := 274) (show decode (tC tMd_state) 274 = .ok (.aload_n 0, 1) by decide +kernel) 0 rfl rfl ?_
  obtain ⟨v9, e10, h⟩ := ob h
  refine v_getX (pc := 275) oF_Md_19 e10 (show decode (tC tMd_state) 275 = .ok (.getfield 19, 3) by decide +kernel) ?_
  refine v_aload_n (pc := 278) (show decode (tC tMd_state) 278 = .ok (.aload_n 0, 1) by decide +kernel) 0 rfl rfl ?_
  obtain ⟨v11, e12, h⟩ := ob h
  refine v_getI (pc := 279) oF_Md_189 (by decide) e12 (show decode (tC tMd_state) 279 = .ok (.getfield 189, 3) by decide +kernel) ?_
  refine v_iconst (pc := 282) (v := 0) (show decode (tC tMd_state) 282 = .ok (.iconst 0, 1) by decide +kernel) (by decide) ?_
  obtain ⟨S13, e14, h⟩ := ob h
  refine v_iast (pc := 283) e14 (show decode (tC tMd_state) 283 = .ok (.iastore, 1) by decide +kernel) ?_
  refine v_aload_n (pc := 284) (show decode (tC tMd_state) 284 = .ok (.aload_n 0, 1) by decide +kernel) 0 rfl rfl ?_
  obtain ⟨v15, e16, h⟩ := ob h
  refine v_getX (pc := 285) oF_Md_31 e16 (show decode (tC tMd_state) 285 = .ok (.getfield 31, 3) by decide +kernel) ?_
  refine v_aload_n (pc := 288) (show decode (tC tMd_state) 288 = .ok (.aload_n 0, 1) by decide +kernel) 0 rfl rfl ?_
  obtain ⟨v17, e18, h⟩ := ob h
  refine v_getI (pc := 289) oF_Md_189 (by decide) e18 (show decode (tC tMd_state) 289 = .ok (.getfield 189, 3) by decide +kernel) ?_
  refine v_iconst (pc := 292) (v := (-1)) (show decode (tC tMd_state) 292 = .ok (.iconst (-1), 1) by decide +kernel) (by decide) ?_
  obtain ⟨S19, e20, h⟩ := ob h
  refine v_iast (pc := 293) e20 (show decode (tC tMd_state) 293 = .ok (.iastore, 1) by decide +kernel) ?_
  refine v_aload_n (pc := 294) (show decode (tC tMd_state) 294 = .ok (.aload_n 0, 1) by decide +kernel) 0 rfl rfl ?_
  refine v_dup (pc := 295) (show decode (tC tMd_state) 295 = .ok (.dup, 1) by decide +kernel) rfl ?_
  obtain ⟨v21, e22, h⟩ := ob h
  refine v_getI (pc := 296) oF_Md_189 (by decide) e22 (show decode (tC tMd_state) 296 = .ok (.getfield 189, 3) by decide +kernel) ?_
  refine v_iconst (pc := 299) (v := 1) (show decode (tC tMd_state) 299 = .ok (.iconst 1, 1) by decide +kernel) (by decide) ?_
  refine v_iadd (pc := 300) (show decode (tC tMd_state) 300 = .ok (.iadd, 1) by decide +kernel) ?_
  obtain ⟨S23, e24, h⟩ := ob h
  refine v_putI (pc := 301) oF_Md_189 (fin_ok (kd := 12) (k := 2) (by decide +kernel)) e24 (show decode (tC tMd_state) 301 = .ok (.putfield 189, 3) by decide +kernel) ?_
  refine v_aload_n (pc := 304) (show decode (tC tMd_state) 304 = .ok (.aload_n 0, 1) by decide +kernel) 0 rfl rfl ?_
  obtain ⟨v25, e26, h⟩ := ob h
  refine v_getI (pc := 305) oF_Md_189 (by decide) e26 (show decode (tC tMd_state) 305 = .ok (.getfield 189, 3) by decide +kernel) ?_
  refine v_iconst (pc := 308) (v := 1) (show decode (tC tMd_state) 308 = .ok (.iconst 1, 1) by decide +kernel) (by decide) ?_
  refine v_isub (pc := 309) (show decode (tC tMd_state) 309 = .ok (.isub, 1) by decide +kernel) ?_
  obtain rfl := Option.some.inj h
  refine v_wide (ce2 := 0) (sl2 := 0) (by decide) (by decide) ?_
  exact v_iret (pc := 310) rfl (show decode (tC tMd_state) 310 = .ok (.ireturn, 1) by decide +kernel)
def fMd_state_241  (x0 : Nat) (x4 : Int32) (x5 : Int32) (x6 : Int32) (x8 : Int32) (z0 : Int32) (z1 : Int32) (z2 : Nat) (S : Sx) : Option (Int32 × Sx) :=
    (qI S z2 z1 z0).bind fun S1 =>
    (gX S1 12 9 x0).bind fun v3 =>
    if x6 ≤ 3 then
    (fMd_state_262  x0 x5 (-1) (x8 + 3) v3 S1)
    else
    (fMd_state_262  x0 x5 x4 (x8 + 3) v3 S1)
set_option maxRecDepth 100000 in
set_option maxHeartbeats 4000000 in
theorem wMd_state_241 {Γ : vG} (hR : gR Γ = rMd_state) (hl : (gl Γ).flags = pinnedFlags ++ [noTraceFlag]) {X : Int32 × Sx}  : ∀ (x0 : Nat) (x4 : Int32) (x5 : Int32) (x6 : Int32) (x8 : Int32) (z0 : Int32) (z1 : Int32) (z2 : Nat) (S : Sx), fMd_state_241  x0 x4 x5 x6 x8 z0 z1 z2 S = some X → vV Γ tMd_state (mQ Γ 0 0 0 (some (.int X.1)) X.2) S 0 0 241 [(0, .ref x0), (4, .int x4), (5, .int x5), (6, .int x6), (8, .int x8)] [.int z0, .int z1, .ref z2] := by
  intro x0 x4 x5 x6 x8 z0 z1 z2 S h
  unfold fMd_state_241 at h
  obtain ⟨S1, e2, h⟩ := ob h
  refine v_iast (pc := 241) e2 (show decode (tC tMd_state) 241 = .ok (.iastore, 1) by decide +kernel) ?_
  refine v_aload_n (pc := 242) (show decode (tC tMd_state) 242 = .ok (.aload_n 0, 1) by decide +kernel) 0 rfl rfl ?_
  obtain ⟨v3, e4, h⟩ := ob h
  refine v_getX (pc := 243) oF_Md_13 e4 (show decode (tC tMd_state) 243 = .ok (.getfield 13, 3) by decide +kernel) ?_
  refine v_iload (pc := 246) (show decode (tC tMd_state) 246 = .ok (.iload 8, 2) by decide +kernel) 4 rfl ?_
  refine v_iconst (pc := 248) (v := 3) (show decode (tC tMd_state) 248 = .ok (.iconst 3, 1) by decide +kernel) (by decide) ?_
  refine v_iadd (pc := 249) (show decode (tC tMd_state) 249 = .ok (.iadd, 1) by decide +kernel) ?_
  refine v_iload (pc := 250) (show decode (tC tMd_state) 250 = .ok (.iload 6, 2) by decide +kernel) 3 rfl ?_
  refine v_iconst (pc := 252) (v := 3) (show decode (tC tMd_state) 252 = .ok (.iconst 3, 1) by decide +kernel) (by decide) ?_
  refine v_icmp_le (pc := 253) 261 (show decode (tC tMd_state) 253 = .ok (.if_icmp .le 8, 3) by decide +kernel) (by decide) (fun c => ?_) (fun c => ?_)
  · replace h := ite_t c h
    refine v_iconst (pc := 261) (v := (-1)) (show decode (tC tMd_state) 261 = .ok (.iconst (-1), 1) by decide +kernel) (by decide) ?_
    refine v_sub [(0, .ref x0), (5, .int x5)] [0, 2] rfl ?_
    exact wMd_state_262 hR hl  x0 x5 (-1) (x8 + 3) v3 S1 h
  · replace h := ite_f c h
    refine v_iload (pc := 256) (show decode (tC tMd_state) 256 = .ok (.iload 4, 2) by decide +kernel) 1 rfl ?_
    refine v_goto (pc := 258) 262 (show decode (tC tMd_state) 258 = .ok (.goto 4, 3) by decide +kernel) (by decide) ?_
    refine v_sub [(0, .ref x0), (5, .int x5)] [0, 2] rfl ?_
    exact wMd_state_262 hR hl  x0 x5 x4 (x8 + 3) v3 S1 h
def fMd_state_221  (x0 : Nat) (x3 : Int32) (x4 : Int32) (x5 : Int32) (x6 : Int32) (x8 : Int32) (z0 : Int32) (z1 : Int32) (z2 : Nat) (S : Sx) : Option (Int32 × Sx) :=
    (qI S z2 z1 z0).bind fun S1 =>
    (gX S1 12 9 x0).bind fun v3 =>
    if x6 ≤ 2 then
    (fMd_state_241  x0 x4 x5 x6 x8 (-1) (x8 + 2) v3 S1)
    else
    (fMd_state_241  x0 x4 x5 x6 x8 x3 (x8 + 2) v3 S1)
set_option maxRecDepth 100000 in
set_option maxHeartbeats 4000000 in
theorem wMd_state_221 {Γ : vG} (hR : gR Γ = rMd_state) (hl : (gl Γ).flags = pinnedFlags ++ [noTraceFlag]) {X : Int32 × Sx}  : ∀ (x0 : Nat) (x3 : Int32) (x4 : Int32) (x5 : Int32) (x6 : Int32) (x8 : Int32) (z0 : Int32) (z1 : Int32) (z2 : Nat) (S : Sx), fMd_state_221  x0 x3 x4 x5 x6 x8 z0 z1 z2 S = some X → vV Γ tMd_state (mQ Γ 0 0 0 (some (.int X.1)) X.2) S 0 0 221 [(0, .ref x0), (3, .int x3), (4, .int x4), (5, .int x5), (6, .int x6), (8, .int x8)] [.int z0, .int z1, .ref z2] := by
  intro x0 x3 x4 x5 x6 x8 z0 z1 z2 S h
  unfold fMd_state_221 at h
  obtain ⟨S1, e2, h⟩ := ob h
  refine v_iast (pc := 221) e2 (show decode (tC tMd_state) 221 = .ok (.iastore, 1) by decide +kernel) ?_
  refine v_aload_n (pc := 222) (show decode (tC tMd_state) 222 = .ok (.aload_n 0, 1) by decide +kernel) 0 rfl rfl ?_
  obtain ⟨v3, e4, h⟩ := ob h
  refine v_getX (pc := 223) oF_Md_13 e4 (show decode (tC tMd_state) 223 = .ok (.getfield 13, 3) by decide +kernel) ?_
  refine v_iload (pc := 226) (show decode (tC tMd_state) 226 = .ok (.iload 8, 2) by decide +kernel) 5 rfl ?_
  refine v_iconst (pc := 228) (v := 2) (show decode (tC tMd_state) 228 = .ok (.iconst 2, 1) by decide +kernel) (by decide) ?_
  refine v_iadd (pc := 229) (show decode (tC tMd_state) 229 = .ok (.iadd, 1) by decide +kernel) ?_
  refine v_iload (pc := 230) (show decode (tC tMd_state) 230 = .ok (.iload 6, 2) by decide +kernel) 4 rfl ?_
  refine v_iconst (pc := 232) (v := 2) (show decode (tC tMd_state) 232 = .ok (.iconst 2, 1) by decide +kernel) (by decide) ?_
  refine v_icmp_le (pc := 233) 240 (show decode (tC tMd_state) 233 = .ok (.if_icmp .le 7, 3) by decide +kernel) (by decide) (fun c => ?_) (fun c => ?_)
  · replace h := ite_t c h
    refine v_iconst (pc := 240) (v := (-1)) (show decode (tC tMd_state) 240 = .ok (.iconst (-1), 1) by decide +kernel) (by decide) ?_
    refine v_sub [(0, .ref x0), (4, .int x4), (5, .int x5), (6, .int x6), (8, .int x8)] [0, 2, 3, 4, 5] rfl ?_
    exact wMd_state_241 hR hl  x0 x4 x5 x6 x8 (-1) (x8 + 2) v3 S1 h
  · replace h := ite_f c h
    refine v_iload_n (pc := 236) (show decode (tC tMd_state) 236 = .ok (.iload_n 3, 1) by decide +kernel) 1 rfl rfl ?_
    refine v_goto (pc := 237) 241 (show decode (tC tMd_state) 237 = .ok (.goto 4, 3) by decide +kernel) (by decide) ?_
    refine v_sub [(0, .ref x0), (4, .int x4), (5, .int x5), (6, .int x6), (8, .int x8)] [0, 2, 3, 4, 5] rfl ?_
    exact wMd_state_241 hR hl  x0 x4 x5 x6 x8 x3 (x8 + 2) v3 S1 h
def fMd_state_201  (x0 : Nat) (x2 : Int32) (x3 : Int32) (x4 : Int32) (x5 : Int32) (x6 : Int32) (x8 : Int32) (z0 : Int32) (z1 : Int32) (z2 : Nat) (S : Sx) : Option (Int32 × Sx) :=
    (qI S z2 z1 z0).bind fun S1 =>
    (gX S1 12 9 x0).bind fun v3 =>
    if x6 ≤ 1 then
    (fMd_state_221  x0 x3 x4 x5 x6 x8 (-1) (x8 + 1) v3 S1)
    else
    (fMd_state_221  x0 x3 x4 x5 x6 x8 x2 (x8 + 1) v3 S1)
set_option maxRecDepth 100000 in
set_option maxHeartbeats 4000000 in
theorem wMd_state_201 {Γ : vG} (hR : gR Γ = rMd_state) (hl : (gl Γ).flags = pinnedFlags ++ [noTraceFlag]) {X : Int32 × Sx}  : ∀ (x0 : Nat) (x2 : Int32) (x3 : Int32) (x4 : Int32) (x5 : Int32) (x6 : Int32) (x8 : Int32) (z0 : Int32) (z1 : Int32) (z2 : Nat) (S : Sx), fMd_state_201  x0 x2 x3 x4 x5 x6 x8 z0 z1 z2 S = some X → vV Γ tMd_state (mQ Γ 0 0 0 (some (.int X.1)) X.2) S 0 0 201 [(0, .ref x0), (2, .int x2), (3, .int x3), (4, .int x4), (5, .int x5), (6, .int x6), (8, .int x8)] [.int z0, .int z1, .ref z2] := by
  intro x0 x2 x3 x4 x5 x6 x8 z0 z1 z2 S h
  unfold fMd_state_201 at h
  obtain ⟨S1, e2, h⟩ := ob h
  refine v_iast (pc := 201) e2 (show decode (tC tMd_state) 201 = .ok (.iastore, 1) by decide +kernel) ?_
  refine v_aload_n (pc := 202) (show decode (tC tMd_state) 202 = .ok (.aload_n 0, 1) by decide +kernel) 0 rfl rfl ?_
  obtain ⟨v3, e4, h⟩ := ob h
  refine v_getX (pc := 203) oF_Md_13 e4 (show decode (tC tMd_state) 203 = .ok (.getfield 13, 3) by decide +kernel) ?_
  refine v_iload (pc := 206) (show decode (tC tMd_state) 206 = .ok (.iload 8, 2) by decide +kernel) 6 rfl ?_
  refine v_iconst (pc := 208) (v := 1) (show decode (tC tMd_state) 208 = .ok (.iconst 1, 1) by decide +kernel) (by decide) ?_
  refine v_iadd (pc := 209) (show decode (tC tMd_state) 209 = .ok (.iadd, 1) by decide +kernel) ?_
  refine v_iload (pc := 210) (show decode (tC tMd_state) 210 = .ok (.iload 6, 2) by decide +kernel) 5 rfl ?_
  refine v_iconst (pc := 212) (v := 1) (show decode (tC tMd_state) 212 = .ok (.iconst 1, 1) by decide +kernel) (by decide) ?_
  refine v_icmp_le (pc := 213) 220 (show decode (tC tMd_state) 213 = .ok (.if_icmp .le 7, 3) by decide +kernel) (by decide) (fun c => ?_) (fun c => ?_)
  · replace h := ite_t c h
    refine v_iconst (pc := 220) (v := (-1)) (show decode (tC tMd_state) 220 = .ok (.iconst (-1), 1) by decide +kernel) (by decide) ?_
    refine v_sub [(0, .ref x0), (3, .int x3), (4, .int x4), (5, .int x5), (6, .int x6), (8, .int x8)] [0, 2, 3, 4, 5, 6] rfl ?_
    exact wMd_state_221 hR hl  x0 x3 x4 x5 x6 x8 (-1) (x8 + 1) v3 S1 h
  · replace h := ite_f c h
    refine v_iload_n (pc := 216) (show decode (tC tMd_state) 216 = .ok (.iload_n 2, 1) by decide +kernel) 1 rfl rfl ?_
    refine v_goto (pc := 217) 221 (show decode (tC tMd_state) 217 = .ok (.goto 4, 3) by decide +kernel) (by decide) ?_
    refine v_sub [(0, .ref x0), (3, .int x3), (4, .int x4), (5, .int x5), (6, .int x6), (8, .int x8)] [0, 2, 3, 4, 5, 6] rfl ?_
    exact wMd_state_221 hR hl  x0 x3 x4 x5 x6 x8 x2 (x8 + 1) v3 S1 h
def fMd_state_165  (x0 : Nat) (x1 : Int32) (x2 : Int32) (x3 : Int32) (x4 : Int32) (x5 : Int32) (x6 : Int32) (z0 : Int32) (z1 : Nat) (S : Sx) : Option (Int32 × Sx) :=
    (pI S 12 0 z1 z0).bind fun S1 =>
    (gI S1 12 0 x0).bind fun v3 =>
    if v3 ≤ 0 then
    ((gI S1 12 2 x0).bind fun v5 =>
    (gX S1 12 9 x0).bind fun v7 =>
    if x6 ≤ 0 then
    (fMd_state_201  x0 x2 x3 x4 x5 x6 (4 * v5) (-1) (4 * v5) v7 S1)
    else
    (fMd_state_201  x0 x2 x3 x4 x5 x6 (4 * v5) x1 (4 * v5) v7 S1))
    else
    (some (0, S1))
set_option maxRecDepth 100000 in
set_option maxHeartbeats 4000000 in
theorem wMd_state_165 {Γ : vG} (hR : gR Γ = rMd_state) (hl : (gl Γ).flags = pinnedFlags ++ [noTraceFlag]) {X : Int32 × Sx}  : ∀ (x0 : Nat) (x1 : Int32) (x2 : Int32) (x3 : Int32) (x4 : Int32) (x5 : Int32) (x6 : Int32) (z0 : Int32) (z1 : Nat) (S : Sx), fMd_state_165  x0 x1 x2 x3 x4 x5 x6 z0 z1 S = some X → vV Γ tMd_state (mQ Γ 0 0 0 (some (.int X.1)) X.2) S 0 0 165 [(0, .ref x0), (1, .int x1), (2, .int x2), (3, .int x3), (4, .int x4), (5, .int x5), (6, .int x6)] [.int z0, .ref z1] := by
  intro x0 x1 x2 x3 x4 x5 x6 z0 z1 S h
  unfold fMd_state_165 at h
  obtain ⟨S1, e2, h⟩ := ob h
  refine v_putI (pc := 165) oF_Md_183 (fin_ok (kd := 12) (k := 0) (by decide +kernel)) e2 (show decode (tC tMd_state) 165 = .ok (.putfield 183, 3) by decide +kernel) ?_
  refine v_aload_n (pc := 168) (show decode (tC tMd_state) 168 = .ok (.aload_n 0, 1) by decide +kernel) 0 rfl rfl ?_
  obtain ⟨v3, e4, h⟩ := ob h
  refine v_getI (pc := 169) oF_Md_183 (by decide) e4 (show decode (tC tMd_state) 169 = .ok (.getfield 183, 3) by decide +kernel) ?_
  refine v_if_le (pc := 172) 177 (show decode (tC tMd_state) 172 = .ok (.ifCond .le 5, 3) by decide +kernel) (by decide) (fun c => ?_) (fun c => ?_)
  · replace h := ite_t c h
    refine v_iconst (pc := 177) (v := 4) (show decode (tC tMd_state) 177 = .ok (.iconst 4, 1) by decide +kernel) (by decide) ?_
    refine v_aload_n (pc := 178) (show decode (tC tMd_state) 178 = .ok (.aload_n 0, 1) by decide +kernel) 0 rfl rfl ?_
    obtain ⟨v5, e6, h⟩ := ob h
    refine v_getI (pc := 179) oF_Md_189 (by decide) e6 (show decode (tC tMd_state) 179 = .ok (.getfield 189, 3) by decide +kernel) ?_
    refine v_imul (pc := 182) (show decode (tC tMd_state) 182 = .ok (.imul, 1) by decide +kernel) ?_
    refine v_istore (pc := 183) [(8, .int (4 * v5)), (0, .ref x0), (1, .int x1), (2, .int x2), (3, .int x3), (4, .int x4), (5, .int x5), (6, .int x6)] (show decode (tC tMd_state) 183 = .ok (.istore 8, 2) by decide +kernel) (by decide) rfl ?_
    refine v_aload_n (pc := 185) (show decode (tC tMd_state) 185 = .ok (.aload_n 0, 1) by decide +kernel) 1 rfl rfl ?_
    obtain ⟨v7, e8, h⟩ := ob h
    refine v_getX (pc := 186) oF_Md_13 e8 (show decode (tC tMd_state) 186 = .ok (.getfield 13, 3) by decide +kernel) ?_
    refine v_iload (pc := 189) (show decode (tC tMd_state) 189 = .ok (.iload 8, 2) by decide +kernel) 0 rfl ?_
    refine v_iload (pc := 191) (show decode (tC tMd_state) 191 = .ok (.iload 6, 2) by decide +kernel) 7 rfl ?_
    refine v_if_le (pc := 193) 200 (show decode (tC tMd_state) 193 = .ok (.ifCond .le 7, 3) by decide +kernel) (by decide) (fun c => ?_) (fun c => ?_)
    · replace h := ite_t c h
      refine v_iconst (pc := 200) (v := (-1)) (show decode (tC tMd_state) 200 = .ok (.iconst (-1), 1) by decide +kernel) (by decide) ?_
      refine v_sub [(0, .ref x0), (2, .int x2), (3, .int x3), (4, .int x4), (5, .int x5), (6, .int x6), (8, .int (4 * v5))] [1, 3, 4, 5, 6, 7, 0] rfl ?_
      exact wMd_state_201 hR hl  x0 x2 x3 x4 x5 x6 (4 * v5) (-1) (4 * v5) v7 S1 h
    · replace h := ite_f c h
      refine v_iload_n (pc := 196) (show decode (tC tMd_state) 196 = .ok (.iload_n 1, 1) by decide +kernel) 2 rfl rfl ?_
      refine v_goto (pc := 197) 201 (show decode (tC tMd_state) 197 = .ok (.goto 4, 3) by decide +kernel) (by decide) ?_
      refine v_sub [(0, .ref x0), (2, .int x2), (3, .int x3), (4, .int x4), (5, .int x5), (6, .int x6), (8, .int (4 * v5))] [1, 3, 4, 5, 6, 7, 0] rfl ?_
      exact wMd_state_201 hR hl  x0 x2 x3 x4 x5 x6 (4 * v5) x1 (4 * v5) v7 S1 h
  · replace h := ite_f c h
    refine v_iconst (pc := 175) (v := 0) (show decode (tC tMd_state) 175 = .ok (.iconst 0, 1) by decide +kernel) (by decide) ?_
    obtain rfl := Option.some.inj h
    refine v_wide (ce2 := 0) (sl2 := 0) (by decide) (by decide) ?_
    exact v_iret (pc := 176) rfl (show decode (tC tMd_state) 176 = .ok (.ireturn, 1) by decide +kernel)
def fMd_state_160  (x0 : Nat) (x1 : Int32) (x2 : Int32) (x3 : Int32) (x4 : Int32) (x5 : Int32) (x6 : Int32) (z0 : Nat) (S : Sx) : Option (Int32 × Sx) :=
    fMd_state_165  x0 x1 x2 x3 x4 x5 x6 2 z0 S
set_option maxRecDepth 100000 in
set_option maxHeartbeats 4000000 in
theorem wMd_state_160 {Γ : vG} (hR : gR Γ = rMd_state) (hl : (gl Γ).flags = pinnedFlags ++ [noTraceFlag]) {X : Int32 × Sx}  : ∀ (x0 : Nat) (x1 : Int32) (x2 : Int32) (x3 : Int32) (x4 : Int32) (x5 : Int32) (x6 : Int32) (z0 : Nat) (S : Sx), fMd_state_160  x0 x1 x2 x3 x4 x5 x6 z0 S = some X → vV Γ tMd_state (mQ Γ 0 0 0 (some (.int X.1)) X.2) S 0 0 160 [(0, .ref x0), (1, .int x1), (2, .int x2), (3, .int x3), (4, .int x4), (5, .int x5), (6, .int x6)] [.ref z0] := by
  intro x0 x1 x2 x3 x4 x5 x6 z0 S h
  unfold fMd_state_160 at h
  refine v_iconst (pc := 160) (v := 2) (show decode (tC tMd_state) 160 = .ok (.iconst 2, 1) by decide +kernel) (by decide) ?_
  refine v_goto (pc := 161) 165 (show decode (tC tMd_state) 161 = .ok (.goto 4, 3) by decide +kernel) (by decide) ?_
  exact wMd_state_165 hR hl  x0 x1 x2 x3 x4 x5 x6 2 z0 S h
def fMd_state_132  (x0 : Nat) (x1 : Int32) (x2 : Int32) (x3 : Int32) (x4 : Int32) (x5 : Int32) (x6 : Int32) (z0 : Int32) (S : Sx) : Option (Int32 × Sx) :=
    if z0 = 0 then
    (fMd_state_165  x0 x1 x2 x3 x4 x5 x6 1 x0 S)
    else
    ((gI S 12 2 x0).bind fun v1 =>
    if v1 = 8 then
    (fMd_state_160  x0 x1 x2 x3 x4 x5 x6 x0 S)
    else
    ((gI S 12 7 x0).bind fun v3 =>
    if v3 = 0 then
    (fMd_state_165  x0 x1 x2 x3 x4 x5 x6 0 x0 S)
    else
    (fMd_state_160  x0 x1 x2 x3 x4 x5 x6 x0 S)))
set_option maxRecDepth 100000 in
set_option maxHeartbeats 4000000 in
theorem wMd_state_132 {Γ : vG} (hR : gR Γ = rMd_state) (hl : (gl Γ).flags = pinnedFlags ++ [noTraceFlag]) {X : Int32 × Sx}  : ∀ (x0 : Nat) (x1 : Int32) (x2 : Int32) (x3 : Int32) (x4 : Int32) (x5 : Int32) (x6 : Int32) (z0 : Int32) (S : Sx), fMd_state_132  x0 x1 x2 x3 x4 x5 x6 z0 S = some X → vV Γ tMd_state (mQ Γ 0 0 0 (some (.int X.1)) X.2) S 0 0 132 [(0, .ref x0), (1, .int x1), (2, .int x2), (3, .int x3), (4, .int x4), (5, .int x5), (6, .int x6)] [.int z0] := by
  intro x0 x1 x2 x3 x4 x5 x6 z0 S h
  unfold fMd_state_132 at h
  refine v_istore (pc := 132) [(7, .int z0), (0, .ref x0), (1, .int x1), (2, .int x2), (3, .int x3), (4, .int x4), (5, .int x5), (6, .int x6)] (show decode (tC tMd_state) 132 = .ok (.istore 7, 2) by decide +kernel) (by decide) rfl ?_
  refine v_aload_n (pc := 134) (show decode (tC tMd_state) 134 = .ok (.aload_n 0, 1) by decide +kernel) 1 rfl rfl ?_
  refine v_iload (pc := 135) (show decode (tC tMd_state) 135 = .ok (.iload 7, 2) by decide +kernel) 0 rfl ?_
  refine v_if_ne (pc := 137) 144 (show decode (tC tMd_state) 137 = .ok (.ifCond .ne 7, 3) by decide +kernel) (by decide) (fun c => ?_) (fun c => ?_)
  · replace h := ite_f c h
    refine v_aload_n (pc := 144) (show decode (tC tMd_state) 144 = .ok (.aload_n 0, 1) by decide +kernel) 1 rfl rfl ?_
    obtain ⟨v1, e2, h⟩ := ob h
    refine v_getI (pc := 145) oF_Md_189 (by decide) e2 (show decode (tC tMd_state) 145 = .ok (.getfield 189, 3) by decide +kernel) ?_
    refine v_bipush (pc := 148) (v := 8) (show decode (tC tMd_state) 148 = .ok (.bipush 8, 2) by decide +kernel) (by decide) ?_
    refine v_icmp_eq (pc := 150) 160 (show decode (tC tMd_state) 150 = .ok (.if_icmp .eq 10, 3) by decide +kernel) (by decide) (fun c => ?_) (fun c => ?_)
    · replace h := ite_t c h
      refine v_sub [(0, .ref x0), (1, .int x1), (2, .int x2), (3, .int x3), (4, .int x4), (5, .int x5), (6, .int x6)] [1, 2, 3, 4, 5, 6, 7] rfl ?_
      exact wMd_state_160 hR hl  x0 x1 x2 x3 x4 x5 x6 x0 S h
    · replace h := ite_f c h
      refine v_aload_n (pc := 153) (show decode (tC tMd_state) 153 = .ok (.aload_n 0, 1) by decide +kernel) 1 rfl rfl ?_
      obtain ⟨v3, e4, h⟩ := ob h
      refine v_getI (pc := 154) oF_Md_204 (by decide) e4 (show decode (tC tMd_state) 154 = .ok (.getfield 204, 3) by decide +kernel) ?_
      refine v_if_eq (pc := 157) 164 (show decode (tC tMd_state) 157 = .ok (.ifCond .eq 7, 3) by decide +kernel) (by decide) (fun c => ?_) (fun c => ?_)
      · replace h := ite_t c h
        refine v_iconst (pc := 164) (v := 0) (show decode (tC tMd_state) 164 = .ok (.iconst 0, 1) by decide +kernel) (by decide) ?_
        refine v_sub [(0, .ref x0), (1, .int x1), (2, .int x2), (3, .int x3), (4, .int x4), (5, .int x5), (6, .int x6)] [1, 2, 3, 4, 5, 6, 7] rfl ?_
        exact wMd_state_165 hR hl  x0 x1 x2 x3 x4 x5 x6 0 x0 S h
      · replace h := ite_f c h
        refine v_sub [(0, .ref x0), (1, .int x1), (2, .int x2), (3, .int x3), (4, .int x4), (5, .int x5), (6, .int x6)] [1, 2, 3, 4, 5, 6, 7] rfl ?_
        exact wMd_state_160 hR hl  x0 x1 x2 x3 x4 x5 x6 x0 S h
  · replace h := ite_t c h
    refine v_iconst (pc := 140) (v := 1) (show decode (tC tMd_state) 140 = .ok (.iconst 1, 1) by decide +kernel) (by decide) ?_
    refine v_goto (pc := 141) 165 (show decode (tC tMd_state) 141 = .ok (.goto 24, 3) by decide +kernel) (by decide) ?_
    refine v_sub [(0, .ref x0), (1, .int x1), (2, .int x2), (3, .int x3), (4, .int x4), (5, .int x5), (6, .int x6)] [1, 2, 3, 4, 5, 6, 7] rfl ?_
    exact wMd_state_165 hR hl  x0 x1 x2 x3 x4 x5 x6 1 x0 S h
def fMd_state_127  (x0 : Nat) (x1 : Int32) (x2 : Int32) (x3 : Int32) (x4 : Int32) (x5 : Int32) (x6 : Int32) (S : Sx) : Option (Int32 × Sx) :=
    fMd_state_132  x0 x1 x2 x3 x4 x5 x6 1 S
set_option maxRecDepth 100000 in
set_option maxHeartbeats 4000000 in
theorem wMd_state_127 {Γ : vG} (hR : gR Γ = rMd_state) (hl : (gl Γ).flags = pinnedFlags ++ [noTraceFlag]) {X : Int32 × Sx}  : ∀ (x0 : Nat) (x1 : Int32) (x2 : Int32) (x3 : Int32) (x4 : Int32) (x5 : Int32) (x6 : Int32) (S : Sx), fMd_state_127  x0 x1 x2 x3 x4 x5 x6 S = some X → vV Γ tMd_state (mQ Γ 0 0 0 (some (.int X.1)) X.2) S 0 0 127 [(0, .ref x0), (1, .int x1), (2, .int x2), (3, .int x3), (4, .int x4), (5, .int x5), (6, .int x6)] [] := by
  intro x0 x1 x2 x3 x4 x5 x6 S h
  unfold fMd_state_127 at h
  refine v_iconst (pc := 127) (v := 1) (show decode (tC tMd_state) 127 = .ok (.iconst 1, 1) by decide +kernel) (by decide) ?_
  refine v_goto (pc := 128) 132 (show decode (tC tMd_state) 128 = .ok (.goto 4, 3) by decide +kernel) (by decide) ?_
  exact wMd_state_132 hR hl  x0 x1 x2 x3 x4 x5 x6 1 S h
def fMd_state_131  (x0 : Nat) (x1 : Int32) (x2 : Int32) (x3 : Int32) (x4 : Int32) (x5 : Int32) (x6 : Int32) (S : Sx) : Option (Int32 × Sx) :=
    fMd_state_132  x0 x1 x2 x3 x4 x5 x6 0 S
set_option maxRecDepth 100000 in
set_option maxHeartbeats 4000000 in
theorem wMd_state_131 {Γ : vG} (hR : gR Γ = rMd_state) (hl : (gl Γ).flags = pinnedFlags ++ [noTraceFlag]) {X : Int32 × Sx}  : ∀ (x0 : Nat) (x1 : Int32) (x2 : Int32) (x3 : Int32) (x4 : Int32) (x5 : Int32) (x6 : Int32) (S : Sx), fMd_state_131  x0 x1 x2 x3 x4 x5 x6 S = some X → vV Γ tMd_state (mQ Γ 0 0 0 (some (.int X.1)) X.2) S 0 0 131 [(0, .ref x0), (1, .int x1), (2, .int x2), (3, .int x3), (4, .int x4), (5, .int x5), (6, .int x6)] [] := by
  intro x0 x1 x2 x3 x4 x5 x6 S h
  unfold fMd_state_131 at h
  refine v_iconst (pc := 131) (v := 0) (show decode (tC tMd_state) 131 = .ok (.iconst 0, 1) by decide +kernel) (by decide) ?_
  exact wMd_state_132 hR hl  x0 x1 x2 x3 x4 x5 x6 0 S h
def fMd_state_109  (x0 : Nat) (x1 : Int32) (x2 : Int32) (x3 : Int32) (x4 : Int32) (x5 : Int32) (x6 : Int32) (S : Sx) : Option (Int32 × Sx) :=
    if x5 = (-1) then
    (fMd_state_127  x0 x1 x2 x3 x4 x5 x6 S)
    else
    ((gI S 12 1 x0).bind fun v1 =>
    bd2 (fMd_in x5 v1 S) fun r4 S5 =>
    if r4 = 0 then
    (fMd_state_131  x0 x1 x2 x3 x4 x5 x6 S5)
    else
    (fMd_state_127  x0 x1 x2 x3 x4 x5 x6 S5))
set_option maxRecDepth 100000 in
set_option maxHeartbeats 4000000 in
theorem wMd_state_109 {Γ : vG} (hR : gR Γ = rMd_state) (hl : (gl Γ).flags = pinnedFlags ++ [noTraceFlag]) {X : Int32 × Sx}  : ∀ (x0 : Nat) (x1 : Int32) (x2 : Int32) (x3 : Int32) (x4 : Int32) (x5 : Int32) (x6 : Int32) (S : Sx), fMd_state_109  x0 x1 x2 x3 x4 x5 x6 S = some X → vV Γ tMd_state (mQ Γ 0 0 0 (some (.int X.1)) X.2) S 0 0 109 [(0, .ref x0), (1, .int x1), (2, .int x2), (3, .int x3), (4, .int x4), (5, .int x5), (6, .int x6)] [] := by
  intro x0 x1 x2 x3 x4 x5 x6 S h
  unfold fMd_state_109 at h
  refine v_iload (pc := 109) (show decode (tC tMd_state) 109 = .ok (.iload 5, 2) by decide +kernel) 5 rfl ?_
  refine v_iconst (pc := 111) (v := (-1)) (show decode (tC tMd_state) 111 = .ok (.iconst (-1), 1) by decide +kernel) (by decide) ?_
  refine v_icmp_eq (pc := 112) 127 (show decode (tC tMd_state) 112 = .ok (.if_icmp .eq 15, 3) by decide +kernel) (by decide) (fun c => ?_) (fun c => ?_)
  · replace h := ite_t c h
    exact wMd_state_127 hR hl  x0 x1 x2 x3 x4 x5 x6 S h
  · replace h := ite_f c h
    refine v_iload (pc := 115) (show decode (tC tMd_state) 115 = .ok (.iload 5, 2) by decide +kernel) 5 rfl ?_
    refine v_aload_n (pc := 117) (show decode (tC tMd_state) 117 = .ok (.aload_n 0, 1) by decide +kernel) 0 rfl rfl ?_
    obtain ⟨v1, e2, h⟩ := ob h
    refine v_getI (pc := 118) oF_Md_186 (by decide) e2 (show decode (tC tMd_state) 118 = .ok (.getfield 186, 3) by decide +kernel) ?_
    obtain ⟨r4, S5, e3, h⟩ := ob2 h
    refine v_call (pc := 121) (v := (some (.int r4))) (y := yMd_in) (θ' := tMd_in) (rm := rMd_in) (av := [.int x5, .int v1]) (st := []) (cMd_in (l := gl Γ) hl e3) kMd_in iMd_in (iv_static (y := yMd_in) (θ' := tMd_in) (n := 2) (As := [.int x5, .int v1]) kMd_in (gT_in 1437 (by decide +kernel) rfl) sMd_in iMd_in mMd_in rfl (show decode (tC tMd_state) 121 = .ok (.invokestatic 241, 3) by decide +kernel)) ⟨by rw [hR]; decide, by rw [hR]; decide, by rw [hR]; decide, by rw [hR]; decide⟩ (Nat.le_of_ble_eq_true rfl) ?_
    refine v_if_eq (pc := 124) 131 (show decode (tC tMd_state) 124 = .ok (.ifCond .eq 7, 3) by decide +kernel) (by decide) (fun c => ?_) (fun c => ?_)
    · replace h := ite_t c h
      exact wMd_state_131 hR hl  x0 x1 x2 x3 x4 x5 x6 S5 h
    · replace h := ite_f c h
      exact wMd_state_127 hR hl  x0 x1 x2 x3 x4 x5 x6 S5 h
def fMd_state_91  (x0 : Nat) (x1 : Int32) (x2 : Int32) (x3 : Int32) (x4 : Int32) (x5 : Int32) (x6 : Int32) (S : Sx) : Option (Int32 × Sx) :=
    if x6 < 4 then
    (fMd_state_109  x0 x1 x2 x3 x4 x5 x6 S)
    else
    ((gI S 12 1 x0).bind fun v1 =>
    bd2 (fMd_in x4 v1 S) fun r4 S5 =>
    if r4 = 0 then
    (fMd_state_131  x0 x1 x2 x3 x4 x5 x6 S5)
    else
    (fMd_state_109  x0 x1 x2 x3 x4 x5 x6 S5))
set_option maxRecDepth 100000 in
set_option maxHeartbeats 4000000 in
theorem wMd_state_91 {Γ : vG} (hR : gR Γ = rMd_state) (hl : (gl Γ).flags = pinnedFlags ++ [noTraceFlag]) {X : Int32 × Sx}  : ∀ (x0 : Nat) (x1 : Int32) (x2 : Int32) (x3 : Int32) (x4 : Int32) (x5 : Int32) (x6 : Int32) (S : Sx), fMd_state_91  x0 x1 x2 x3 x4 x5 x6 S = some X → vV Γ tMd_state (mQ Γ 0 0 0 (some (.int X.1)) X.2) S 0 0 91 [(0, .ref x0), (1, .int x1), (2, .int x2), (3, .int x3), (4, .int x4), (5, .int x5), (6, .int x6)] [] := by
  intro x0 x1 x2 x3 x4 x5 x6 S h
  unfold fMd_state_91 at h
  refine v_iload (pc := 91) (show decode (tC tMd_state) 91 = .ok (.iload 6, 2) by decide +kernel) 6 rfl ?_
  refine v_iconst (pc := 93) (v := 4) (show decode (tC tMd_state) 93 = .ok (.iconst 4, 1) by decide +kernel) (by decide) ?_
  refine v_icmp_lt (pc := 94) 109 (show decode (tC tMd_state) 94 = .ok (.if_icmp .lt 15, 3) by decide +kernel) (by decide) (fun c => ?_) (fun c => ?_)
  · replace h := ite_t c h
    exact wMd_state_109 hR hl  x0 x1 x2 x3 x4 x5 x6 S h
  · replace h := ite_f c h
    refine v_iload (pc := 97) (show decode (tC tMd_state) 97 = .ok (.iload 4, 2) by decide +kernel) 4 rfl ?_
    refine v_aload_n (pc := 99) (show decode (tC tMd_state) 99 = .ok (.aload_n 0, 1) by decide +kernel) 0 rfl rfl ?_
    obtain ⟨v1, e2, h⟩ := ob h
    refine v_getI (pc := 100) oF_Md_186 (by decide) e2 (show decode (tC tMd_state) 100 = .ok (.getfield 186, 3) by decide +kernel) ?_
    obtain ⟨r4, S5, e3, h⟩ := ob2 h
    refine v_call (pc := 103) (v := (some (.int r4))) (y := yMd_in) (θ' := tMd_in) (rm := rMd_in) (av := [.int x4, .int v1]) (st := []) (cMd_in (l := gl Γ) hl e3) kMd_in iMd_in (iv_static (y := yMd_in) (θ' := tMd_in) (n := 2) (As := [.int x4, .int v1]) kMd_in (gT_in 1437 (by decide +kernel) rfl) sMd_in iMd_in mMd_in rfl (show decode (tC tMd_state) 103 = .ok (.invokestatic 241, 3) by decide +kernel)) ⟨by rw [hR]; decide, by rw [hR]; decide, by rw [hR]; decide, by rw [hR]; decide⟩ (Nat.le_of_ble_eq_true rfl) ?_
    refine v_if_eq (pc := 106) 131 (show decode (tC tMd_state) 106 = .ok (.ifCond .eq 25, 3) by decide +kernel) (by decide) (fun c => ?_) (fun c => ?_)
    · replace h := ite_t c h
      exact wMd_state_131 hR hl  x0 x1 x2 x3 x4 x5 x6 S5 h
    · replace h := ite_f c h
      exact wMd_state_109 hR hl  x0 x1 x2 x3 x4 x5 x6 S5 h
def fMd_state_74  (x0 : Nat) (x1 : Int32) (x2 : Int32) (x3 : Int32) (x4 : Int32) (x5 : Int32) (x6 : Int32) (S : Sx) : Option (Int32 × Sx) :=
    if x6 < 3 then
    (fMd_state_91  x0 x1 x2 x3 x4 x5 x6 S)
    else
    ((gI S 12 1 x0).bind fun v1 =>
    bd2 (fMd_in x3 v1 S) fun r4 S5 =>
    if r4 = 0 then
    (fMd_state_131  x0 x1 x2 x3 x4 x5 x6 S5)
    else
    (fMd_state_91  x0 x1 x2 x3 x4 x5 x6 S5))
set_option maxRecDepth 100000 in
set_option maxHeartbeats 4000000 in
theorem wMd_state_74 {Γ : vG} (hR : gR Γ = rMd_state) (hl : (gl Γ).flags = pinnedFlags ++ [noTraceFlag]) {X : Int32 × Sx}  : ∀ (x0 : Nat) (x1 : Int32) (x2 : Int32) (x3 : Int32) (x4 : Int32) (x5 : Int32) (x6 : Int32) (S : Sx), fMd_state_74  x0 x1 x2 x3 x4 x5 x6 S = some X → vV Γ tMd_state (mQ Γ 0 0 0 (some (.int X.1)) X.2) S 0 0 74 [(0, .ref x0), (1, .int x1), (2, .int x2), (3, .int x3), (4, .int x4), (5, .int x5), (6, .int x6)] [] := by
  intro x0 x1 x2 x3 x4 x5 x6 S h
  unfold fMd_state_74 at h
  refine v_iload (pc := 74) (show decode (tC tMd_state) 74 = .ok (.iload 6, 2) by decide +kernel) 6 rfl ?_
  refine v_iconst (pc := 76) (v := 3) (show decode (tC tMd_state) 76 = .ok (.iconst 3, 1) by decide +kernel) (by decide) ?_
  refine v_icmp_lt (pc := 77) 91 (show decode (tC tMd_state) 77 = .ok (.if_icmp .lt 14, 3) by decide +kernel) (by decide) (fun c => ?_) (fun c => ?_)
  · replace h := ite_t c h
    exact wMd_state_91 hR hl  x0 x1 x2 x3 x4 x5 x6 S h
  · replace h := ite_f c h
    refine v_iload_n (pc := 80) (show decode (tC tMd_state) 80 = .ok (.iload_n 3, 1) by decide +kernel) 3 rfl rfl ?_
    refine v_aload_n (pc := 81) (show decode (tC tMd_state) 81 = .ok (.aload_n 0, 1) by decide +kernel) 0 rfl rfl ?_
    obtain ⟨v1, e2, h⟩ := ob h
    refine v_getI (pc := 82) oF_Md_186 (by decide) e2 (show decode (tC tMd_state) 82 = .ok (.getfield 186, 3) by decide +kernel) ?_
    obtain ⟨r4, S5, e3, h⟩ := ob2 h
    refine v_call (pc := 85) (v := (some (.int r4))) (y := yMd_in) (θ' := tMd_in) (rm := rMd_in) (av := [.int x3, .int v1]) (st := []) (cMd_in (l := gl Γ) hl e3) kMd_in iMd_in (iv_static (y := yMd_in) (θ' := tMd_in) (n := 2) (As := [.int x3, .int v1]) kMd_in (gT_in 1437 (by decide +kernel) rfl) sMd_in iMd_in mMd_in rfl (show decode (tC tMd_state) 85 = .ok (.invokestatic 241, 3) by decide +kernel)) ⟨by rw [hR]; decide, by rw [hR]; decide, by rw [hR]; decide, by rw [hR]; decide⟩ (Nat.le_of_ble_eq_true rfl) ?_
    refine v_if_eq (pc := 88) 131 (show decode (tC tMd_state) 88 = .ok (.ifCond .eq 43, 3) by decide +kernel) (by decide) (fun c => ?_) (fun c => ?_)
    · replace h := ite_t c h
      exact wMd_state_131 hR hl  x0 x1 x2 x3 x4 x5 x6 S5 h
    · replace h := ite_f c h
      exact wMd_state_91 hR hl  x0 x1 x2 x3 x4 x5 x6 S5 h
def fMd_state_57  (x0 : Nat) (x1 : Int32) (x2 : Int32) (x3 : Int32) (x4 : Int32) (x5 : Int32) (x6 : Int32) (S : Sx) : Option (Int32 × Sx) :=
    if x6 < 2 then
    (fMd_state_74  x0 x1 x2 x3 x4 x5 x6 S)
    else
    ((gI S 12 1 x0).bind fun v1 =>
    bd2 (fMd_in x2 v1 S) fun r4 S5 =>
    if r4 = 0 then
    (fMd_state_131  x0 x1 x2 x3 x4 x5 x6 S5)
    else
    (fMd_state_74  x0 x1 x2 x3 x4 x5 x6 S5))
set_option maxRecDepth 100000 in
set_option maxHeartbeats 4000000 in
theorem wMd_state_57 {Γ : vG} (hR : gR Γ = rMd_state) (hl : (gl Γ).flags = pinnedFlags ++ [noTraceFlag]) {X : Int32 × Sx}  : ∀ (x0 : Nat) (x1 : Int32) (x2 : Int32) (x3 : Int32) (x4 : Int32) (x5 : Int32) (x6 : Int32) (S : Sx), fMd_state_57  x0 x1 x2 x3 x4 x5 x6 S = some X → vV Γ tMd_state (mQ Γ 0 0 0 (some (.int X.1)) X.2) S 0 0 57 [(0, .ref x0), (1, .int x1), (2, .int x2), (3, .int x3), (4, .int x4), (5, .int x5), (6, .int x6)] [] := by
  intro x0 x1 x2 x3 x4 x5 x6 S h
  unfold fMd_state_57 at h
  refine v_iload (pc := 57) (show decode (tC tMd_state) 57 = .ok (.iload 6, 2) by decide +kernel) 6 rfl ?_
  refine v_iconst (pc := 59) (v := 2) (show decode (tC tMd_state) 59 = .ok (.iconst 2, 1) by decide +kernel) (by decide) ?_
  refine v_icmp_lt (pc := 60) 74 (show decode (tC tMd_state) 60 = .ok (.if_icmp .lt 14, 3) by decide +kernel) (by decide) (fun c => ?_) (fun c => ?_)
  · replace h := ite_t c h
    exact wMd_state_74 hR hl  x0 x1 x2 x3 x4 x5 x6 S h
  · replace h := ite_f c h
    refine v_iload_n (pc := 63) (show decode (tC tMd_state) 63 = .ok (.iload_n 2, 1) by decide +kernel) 2 rfl rfl ?_
    refine v_aload_n (pc := 64) (show decode (tC tMd_state) 64 = .ok (.aload_n 0, 1) by decide +kernel) 0 rfl rfl ?_
    obtain ⟨v1, e2, h⟩ := ob h
    refine v_getI (pc := 65) oF_Md_186 (by decide) e2 (show decode (tC tMd_state) 65 = .ok (.getfield 186, 3) by decide +kernel) ?_
    obtain ⟨r4, S5, e3, h⟩ := ob2 h
    refine v_call (pc := 68) (v := (some (.int r4))) (y := yMd_in) (θ' := tMd_in) (rm := rMd_in) (av := [.int x2, .int v1]) (st := []) (cMd_in (l := gl Γ) hl e3) kMd_in iMd_in (iv_static (y := yMd_in) (θ' := tMd_in) (n := 2) (As := [.int x2, .int v1]) kMd_in (gT_in 1437 (by decide +kernel) rfl) sMd_in iMd_in mMd_in rfl (show decode (tC tMd_state) 68 = .ok (.invokestatic 241, 3) by decide +kernel)) ⟨by rw [hR]; decide, by rw [hR]; decide, by rw [hR]; decide, by rw [hR]; decide⟩ (Nat.le_of_ble_eq_true rfl) ?_
    refine v_if_eq (pc := 71) 131 (show decode (tC tMd_state) 71 = .ok (.ifCond .eq 60, 3) by decide +kernel) (by decide) (fun c => ?_) (fun c => ?_)
    · replace h := ite_t c h
      exact wMd_state_131 hR hl  x0 x1 x2 x3 x4 x5 x6 S5 h
    · replace h := ite_f c h
      exact wMd_state_74 hR hl  x0 x1 x2 x3 x4 x5 x6 S5 h
def fMd_state_38  (x0 : Nat) (x1 : Int32) (x2 : Int32) (x3 : Int32) (x4 : Int32) (x5 : Int32) (z0 : Int32) (S : Sx) : Option (Int32 × Sx) :=
    if z0 < 1 then
    (fMd_state_57  x0 x1 x2 x3 x4 x5 z0 S)
    else
    ((gI S 12 1 x0).bind fun v1 =>
    bd2 (fMd_in x1 v1 S) fun r4 S5 =>
    if r4 = 0 then
    (fMd_state_131  x0 x1 x2 x3 x4 x5 z0 S5)
    else
    (fMd_state_57  x0 x1 x2 x3 x4 x5 z0 S5))
set_option maxRecDepth 100000 in
set_option maxHeartbeats 4000000 in
theorem wMd_state_38 {Γ : vG} (hR : gR Γ = rMd_state) (hl : (gl Γ).flags = pinnedFlags ++ [noTraceFlag]) {X : Int32 × Sx}  : ∀ (x0 : Nat) (x1 : Int32) (x2 : Int32) (x3 : Int32) (x4 : Int32) (x5 : Int32) (z0 : Int32) (S : Sx), fMd_state_38  x0 x1 x2 x3 x4 x5 z0 S = some X → vV Γ tMd_state (mQ Γ 0 0 0 (some (.int X.1)) X.2) S 0 0 38 [(0, .ref x0), (1, .int x1), (2, .int x2), (3, .int x3), (4, .int x4), (5, .int x5)] [.int z0] := by
  intro x0 x1 x2 x3 x4 x5 z0 S h
  unfold fMd_state_38 at h
  refine v_istore (pc := 38) [(6, .int z0), (0, .ref x0), (1, .int x1), (2, .int x2), (3, .int x3), (4, .int x4), (5, .int x5)] (show decode (tC tMd_state) 38 = .ok (.istore 6, 2) by decide +kernel) (by decide) rfl ?_
  refine v_iload (pc := 40) (show decode (tC tMd_state) 40 = .ok (.iload 6, 2) by decide +kernel) 0 rfl ?_
  refine v_iconst (pc := 42) (v := 1) (show decode (tC tMd_state) 42 = .ok (.iconst 1, 1) by decide +kernel) (by decide) ?_
  refine v_icmp_lt (pc := 43) 57 (show decode (tC tMd_state) 43 = .ok (.if_icmp .lt 14, 3) by decide +kernel) (by decide) (fun c => ?_) (fun c => ?_)
  · replace h := ite_t c h
    refine v_sub [(0, .ref x0), (1, .int x1), (2, .int x2), (3, .int x3), (4, .int x4), (5, .int x5), (6, .int z0)] [1, 2, 3, 4, 5, 6, 0] rfl ?_
    exact wMd_state_57 hR hl  x0 x1 x2 x3 x4 x5 z0 S h
  · replace h := ite_f c h
    refine v_iload_n (pc := 46) (show decode (tC tMd_state) 46 = .ok (.iload_n 1, 1) by decide +kernel) 2 rfl rfl ?_
    refine v_aload_n (pc := 47) (show decode (tC tMd_state) 47 = .ok (.aload_n 0, 1) by decide +kernel) 1 rfl rfl ?_
    obtain ⟨v1, e2, h⟩ := ob h
    refine v_getI (pc := 48) oF_Md_186 (by decide) e2 (show decode (tC tMd_state) 48 = .ok (.getfield 186, 3) by decide +kernel) ?_
    obtain ⟨r4, S5, e3, h⟩ := ob2 h
    refine v_call (pc := 51) (v := (some (.int r4))) (y := yMd_in) (θ' := tMd_in) (rm := rMd_in) (av := [.int x1, .int v1]) (st := []) (cMd_in (l := gl Γ) hl e3) kMd_in iMd_in (iv_static (y := yMd_in) (θ' := tMd_in) (n := 2) (As := [.int x1, .int v1]) kMd_in (gT_in 1437 (by decide +kernel) rfl) sMd_in iMd_in mMd_in rfl (show decode (tC tMd_state) 51 = .ok (.invokestatic 241, 3) by decide +kernel)) ⟨by rw [hR]; decide, by rw [hR]; decide, by rw [hR]; decide, by rw [hR]; decide⟩ (Nat.le_of_ble_eq_true rfl) ?_
    refine v_if_eq (pc := 54) 131 (show decode (tC tMd_state) 54 = .ok (.ifCond .eq 77, 3) by decide +kernel) (by decide) (fun c => ?_) (fun c => ?_)
    · replace h := ite_t c h
      refine v_sub [(0, .ref x0), (1, .int x1), (2, .int x2), (3, .int x3), (4, .int x4), (5, .int x5), (6, .int z0)] [1, 2, 3, 4, 5, 6, 0] rfl ?_
      exact wMd_state_131 hR hl  x0 x1 x2 x3 x4 x5 z0 S5 h
    · replace h := ite_f c h
      refine v_sub [(0, .ref x0), (1, .int x1), (2, .int x2), (3, .int x3), (4, .int x4), (5, .int x5), (6, .int z0)] [1, 2, 3, 4, 5, 6, 0] rfl ?_
      exact wMd_state_57 hR hl  x0 x1 x2 x3 x4 x5 z0 S5 h
def fMd_state (x0 : Nat) (x1 : Int32) (x2 : Int32) (x3 : Int32) (x4 : Int32) (x5 : Int32) (S : Sx) : Option (Int32 × Sx) :=
    if x1 = (-1) then
    (fMd_state_38  x0 x1 x2 x3 x4 x5 0 S)
    else
    (if x2 = (-1) then
    (fMd_state_38  x0 x1 x2 x3 x4 x5 1 S)
    else
    (if x3 = (-1) then
    (fMd_state_38  x0 x1 x2 x3 x4 x5 2 S)
    else
    (if x4 = (-1) then
    (fMd_state_38  x0 x1 x2 x3 x4 x5 3 S)
    else
    (fMd_state_38  x0 x1 x2 x3 x4 x5 4 S))))
set_option maxRecDepth 100000 in
set_option maxHeartbeats 4000000 in
theorem wMd_state {Γ : vG} (hR : gR Γ = rMd_state) (hl : (gl Γ).flags = pinnedFlags ++ [noTraceFlag]) (x0 : Nat) (x1 : Int32) (x2 : Int32) (x3 : Int32) (x4 : Int32) (x5 : Int32) (S : Sx) {X : Int32 × Sx} (h : fMd_state x0 x1 x2 x3 x4 x5 S = some X) : vV Γ tMd_state (mQ Γ 0 0 0 (some (.int X.1)) X.2) S 0 0 0 [(0, .ref x0), (1, .int x1), (2, .int x2), (3, .int x3), (4, .int x4), (5, .int x5)] [] := by
  unfold fMd_state at h
  refine v_iload_n (pc := 0) (show decode (tC tMd_state) 0 = .ok (.iload_n 1, 1) by decide +kernel) 1 rfl rfl ?_
  refine v_iconst (pc := 1) (v := (-1)) (show decode (tC tMd_state) 1 = .ok (.iconst (-1), 1) by decide +kernel) (by decide) ?_
  refine v_icmp_ne (pc := 2) 9 (show decode (tC tMd_state) 2 = .ok (.if_icmp .ne 7, 3) by decide +kernel) (by decide) (fun c => ?_) (fun c => ?_)
  · replace h := ite_f c h
    refine v_iload_n (pc := 9) (show decode (tC tMd_state) 9 = .ok (.iload_n 2, 1) by decide +kernel) 2 rfl rfl ?_
    refine v_iconst (pc := 10) (v := (-1)) (show decode (tC tMd_state) 10 = .ok (.iconst (-1), 1) by decide +kernel) (by decide) ?_
    refine v_icmp_ne (pc := 11) 18 (show decode (tC tMd_state) 11 = .ok (.if_icmp .ne 7, 3) by decide +kernel) (by decide) (fun c => ?_) (fun c => ?_)
    · replace h := ite_f c h
      refine v_iload_n (pc := 18) (show decode (tC tMd_state) 18 = .ok (.iload_n 3, 1) by decide +kernel) 3 rfl rfl ?_
      refine v_iconst (pc := 19) (v := (-1)) (show decode (tC tMd_state) 19 = .ok (.iconst (-1), 1) by decide +kernel) (by decide) ?_
      refine v_icmp_ne (pc := 20) 27 (show decode (tC tMd_state) 20 = .ok (.if_icmp .ne 7, 3) by decide +kernel) (by decide) (fun c => ?_) (fun c => ?_)
      · replace h := ite_f c h
        refine v_iload (pc := 27) (show decode (tC tMd_state) 27 = .ok (.iload 4, 2) by decide +kernel) 4 rfl ?_
        refine v_iconst (pc := 29) (v := (-1)) (show decode (tC tMd_state) 29 = .ok (.iconst (-1), 1) by decide +kernel) (by decide) ?_
        refine v_icmp_ne (pc := 30) 37 (show decode (tC tMd_state) 30 = .ok (.if_icmp .ne 7, 3) by decide +kernel) (by decide) (fun c => ?_) (fun c => ?_)
        · replace h := ite_f c h
          refine v_iconst (pc := 37) (v := 4) (show decode (tC tMd_state) 37 = .ok (.iconst 4, 1) by decide +kernel) (by decide) ?_
          exact wMd_state_38 hR hl  x0 x1 x2 x3 x4 x5 4 S h
        · replace h := ite_t c h
          refine v_iconst (pc := 33) (v := 3) (show decode (tC tMd_state) 33 = .ok (.iconst 3, 1) by decide +kernel) (by decide) ?_
          refine v_goto (pc := 34) 38 (show decode (tC tMd_state) 34 = .ok (.goto 4, 3) by decide +kernel) (by decide) ?_
          exact wMd_state_38 hR hl  x0 x1 x2 x3 x4 x5 3 S h
      · replace h := ite_t c h
        refine v_iconst (pc := 23) (v := 2) (show decode (tC tMd_state) 23 = .ok (.iconst 2, 1) by decide +kernel) (by decide) ?_
        refine v_goto (pc := 24) 38 (show decode (tC tMd_state) 24 = .ok (.goto 14, 3) by decide +kernel) (by decide) ?_
        exact wMd_state_38 hR hl  x0 x1 x2 x3 x4 x5 2 S h
    · replace h := ite_t c h
      refine v_iconst (pc := 14) (v := 1) (show decode (tC tMd_state) 14 = .ok (.iconst 1, 1) by decide +kernel) (by decide) ?_
      refine v_goto (pc := 15) 38 (show decode (tC tMd_state) 15 = .ok (.goto 23, 3) by decide +kernel) (by decide) ?_
      exact wMd_state_38 hR hl  x0 x1 x2 x3 x4 x5 1 S h
  · replace h := ite_t c h
    refine v_iconst (pc := 5) (v := 0) (show decode (tC tMd_state) 5 = .ok (.iconst 0, 1) by decide +kernel) (by decide) ?_
    refine v_goto (pc := 6) 38 (show decode (tC tMd_state) 6 = .ok (.goto 32, 3) by decide +kernel) (by decide) ?_
    exact wMd_state_38 hR hl  x0 x1 x2 x3 x4 x5 0 S h
theorem cMd_state {l : Launch} (hl : l.flags = pinnedFlags ++ [noTraceFlag]) {D : va_G} {dA : Nat → ClassId} {B : Nat} {x0 : Nat} {x1 : Int32} {x2 : Int32} {x3 : Int32} {x4 : Int32} {x5 : Int32} {S : Sx} {X : Int32 × Sx} (h : fMd_state x0 x1 x2 x3 x4 x5 S = some X) : Mx l yMd_state tMd_state rMd_state 0 0 D dA B S [.ref x0, .int x1, .int x2, .int x3, .int x4, .int x5] 0 (some (.int X.1)) X.2 :=
  mx_of hl (by decide) rfl rfl (Nat.le_of_ble_eq_true rfl) (fun Γ e1 e2 e3 e4 e5 => by subst e1; subst e3; subst e4; subst e5; exact wMd_state e2 hl x0 x1 x2 x3 x4 x5 S h)
/-! MatchPipeModel.choice(IIII)V -/
def yMd_choice : MethodName := ⟨"MatchPipeModel", "choice", "(IIII)V"⟩
def tMd_choice : tM := (prog_14_method_7_code, "MatchPipeModel", 6, "choice", none, [])
def rMd_choice : Room := { frames := 1, cells := 0, slots := 0, locals := 21 }
theorem kMd_choice : cOf yMd_choice tMd_choice ∈ gT := gT_in 1443 (by decide +kernel) rfl
theorem iMd_choice : Cond.initialized yMd_choice.cls ∈ gT := gT_in 68 (by decide +kernel) rfl
theorem mMd_choice : okM yMd_choice 4 := ⟨by decide, by decide, by unfold nPar; decide +kernel⟩
theorem nMd_choice : Cond.instanceMethod yMd_choice ∈ gT := gT_in 1441 (by decide +kernel) rfl
theorem lMd_choice : Cond.selects "MatchPipeModel" yMd_choice yMd_choice ∈ gT := gT_in 1442 (by decide +kernel) rfl
def fMd_choice_52  (x0 : Nat) (x1 : Int32) (x2 : Int32) (x3 : Int32) (x4 : Int32) (z0 : Int32) (z1 : Nat) (S : Sx) : Option (Sx) :=
    (pI S 12 0 z1 z0).bind fun S1 =>
    (gI S1 12 0 x0).bind fun v3 =>
    if v3 ≤ 0 then
    ((gX S1 12 11 x0).bind fun v5 =>
    (aI S1 v5 x1).bind fun v7 =>
    (gX S1 12 12 x0).bind fun v9 =>
    (qI S1 v9 ((4 * x1) + v7) x2).bind fun S11 =>
    (gX S11 12 13 x0).bind fun v13 =>
    (qI S11 v13 ((4 * x1) + v7) x3).bind fun S15 =>
    (gX S15 12 14 x0).bind fun v17 =>
    (qI S15 v17 ((4 * x1) + v7) x4).bind fun S19 =>
    (gX S19 12 11 x0).bind fun v21 =>
    (aI S19 v21 x1).bind fun v23 =>
    (qI S19 v21 x1 (v23 + 1)).bind fun S25 =>
    some S25)
    else
    (some S1)
set_option maxRecDepth 100000 in
set_option maxHeartbeats 4000000 in
theorem wMd_choice_52 {Γ : vG} (hR : gR Γ = rMd_choice) (hl : (gl Γ).flags = pinnedFlags ++ [noTraceFlag]) {X : Sx}  : ∀ (x0 : Nat) (x1 : Int32) (x2 : Int32) (x3 : Int32) (x4 : Int32) (z0 : Int32) (z1 : Nat) (S : Sx), fMd_choice_52  x0 x1 x2 x3 x4 z0 z1 S = some X → vV Γ tMd_choice (mQ Γ 0 0 0 none X) S 0 0 52 [(0, .ref x0), (1, .int x1), (2, .int x2), (3, .int x3), (4, .int x4)] [.int z0, .ref z1] := by
  intro x0 x1 x2 x3 x4 z0 z1 S h
  unfold fMd_choice_52 at h
  obtain ⟨S1, e2, h⟩ := ob h
  refine v_putI (pc := 52) oF_Md_183 (fin_ok (kd := 12) (k := 0) (by decide +kernel)) e2 (show decode (tC tMd_choice) 52 = .ok (.putfield 183, 3) by decide +kernel) ?_
  refine v_aload_n (pc := 55) (show decode (tC tMd_choice) 55 = .ok (.aload_n 0, 1) by decide +kernel) 0 rfl rfl ?_
  obtain ⟨v3, e4, h⟩ := ob h
  refine v_getI (pc := 56) oF_Md_183 (by decide) e4 (show decode (tC tMd_choice) 56 = .ok (.getfield 183, 3) by decide +kernel) ?_
  refine v_if_le (pc := 59) 63 (show decode (tC tMd_choice) 59 = .ok (.ifCond .le 4, 3) by decide +kernel) (by decide) (fun c => ?_) (fun c => ?_)
  · replace h := ite_t c h
    refine v_iconst (pc := 63) (v := 4) (show decode (tC tMd_choice) 63 = .ok (.iconst 4, 1) by decide +kernel) (by decide) ?_
    refine v_iload_n (pc := 64) (show decode (tC tMd_choice) 64 = .ok (.iload_n 1, 1) by decide +kernel) 1 rfl rfl ?_
    refine v_imul (pc := 65) (show decode (tC tMd_choice) 65 = .ok (.imul, 1) by decide +kernel) ?_
    refine v_aload_n (pc := 66) (show decode (tC tMd_choice) 66 = .ok (.aload_n 0, 1) by decide +kernel) 0 rfl rfl ?_
    obtain ⟨v5, e6, h⟩ := ob h
    refine v_getX (pc := 67) oF_Md_19 e6 (show decode (tC tMd_choice) 67 = .ok (.getfield 19, 3) by decide +kernel) ?_
    refine v_iload_n (pc := 70) (show decode (tC tMd_choice) 70 = .ok (.iload_n 1, 1) by decide +kernel) 1 rfl rfl ?_
    obtain ⟨v7, e8, h⟩ := ob h
    refine v_iald (pc := 71) e8 (show decode (tC tMd_choice) 71 = .ok (.iaload, 1) by decide +kernel) ?_
    refine v_iadd (pc := 72) (show decode (tC tMd_choice) 72 = .ok (.iadd, 1) by decide +kernel) ?_
    refine v_istore (pc := 73) [(5, .int ((4 * x1) + v7)), (0, .ref x0), (1, .int x1), (2, .int x2), (3, .int x3), (4, .int x4)] (show decode (tC tMd_choice) 73 = .ok (.istore 5, 2) by decide +kernel) (by decide) rfl ?_
    refine v_aload_n (pc := 75) (show decode (tC tMd_choice) 75 = .ok (.aload_n 0, 1) by decide +kernel) 1 rfl rfl ?_
    obtain ⟨v9, e10, h⟩ := ob h
    refine v_getX (pc := 76) oF_Md_22 e10 (show decode (tC tMd_choice) 76 = .ok (.getfield 22, 3) by decide +kernel) ?_
    refine v_iload (pc := 79) (show decode (tC tMd_choice) 79 = .ok (.iload 5, 2) by decide +kernel) 0 rfl ?_
    refine v_iload_n (pc := 81) (show decode (tC tMd_choice) 81 = .ok (.iload_n 2, 1) by decide +kernel) 3 rfl rfl ?_
    obtain ⟨S11, e12, h⟩ := ob h
    refine v_iast (pc := 82) e12 (show decode (tC tMd_choice) 82 = .ok (.iastore, 1) by decide +kernel) ?_
    refine v_aload_n (pc := 83) (show decode (tC tMd_choice) 83 = .ok (.aload_n 0, 1) by decide +kernel) 1 rfl rfl ?_
    obtain ⟨v13, e14, h⟩ := ob h
    refine v_getX (pc := 84) oF_Md_25 e14 (show decode (tC tMd_choice) 84 = .ok (.getfield 25, 3) by decide +kernel) ?_
    refine v_iload (pc := 87) (show decode (tC tMd_choice) 87 = .ok (.iload 5, 2) by decide +kernel) 0 rfl ?_
    refine v_iload_n (pc := 89) (show decode (tC tMd_choice) 89 = .ok (.iload_n 3, 1) by decide +kernel) 4 rfl rfl ?_
    obtain ⟨S15, e16, h⟩ := ob h
    refine v_iast (pc := 90) e16 (show decode (tC tMd_choice) 90 = .ok (.iastore, 1) by decide +kernel) ?_
    refine v_aload_n (pc := 91) (show decode (tC tMd_choice) 91 = .ok (.aload_n 0, 1) by decide +kernel) 1 rfl rfl ?_
    obtain ⟨v17, e18, h⟩ := ob h
    refine v_getX (pc := 92) oF_Md_28 e18 (show decode (tC tMd_choice) 92 = .ok (.getfield 28, 3) by decide +kernel) ?_
    refine v_iload (pc := 95) (show decode (tC tMd_choice) 95 = .ok (.iload 5, 2) by decide +kernel) 0 rfl ?_
    refine v_iload (pc := 97) (show decode (tC tMd_choice) 97 = .ok (.iload 4, 2) by decide +kernel) 5 rfl ?_
    obtain ⟨S19, e20, h⟩ := ob h
    refine v_iast (pc := 99) e20 (show decode (tC tMd_choice) 99 = .ok (.iastore, 1) by decide +kernel) ?_
    refine v_aload_n (pc := 100) (show decode (tC tMd_choice) 100 = .ok (.aload_n 0, 1) by decide +kernel) 1 rfl rfl ?_
    obtain ⟨v21, e22, h⟩ := ob h
    refine v_getX (pc := 101) oF_Md_19 e22 (show decode (tC tMd_choice) 101 = .ok (.getfield 19, 3) by decide +kernel) ?_
    refine v_iload_n (pc := 104) (show decode (tC tMd_choice) 104 = .ok (.iload_n 1, 1) by decide +kernel) 2 rfl rfl ?_
    refine v_dup2_11 (pc := 105) (show decode (tC tMd_choice) 105 = .ok (.dup2, 1) by decide +kernel) rfl rfl ?_
    obtain ⟨v23, e24, h⟩ := ob h
    refine v_iald (pc := 106) e24 (show decode (tC tMd_choice) 106 = .ok (.iaload, 1) by decide +kernel) ?_
    refine v_iconst (pc := 107) (v := 1) (show decode (tC tMd_choice) 107 = .ok (.iconst 1, 1) by decide +kernel) (by decide) ?_
    refine v_iadd (pc := 108) (show decode (tC tMd_choice) 108 = .ok (.iadd, 1) by decide +kernel) ?_
    obtain ⟨S25, e26, h⟩ := ob h
    refine v_iast (pc := 109) e26 (show decode (tC tMd_choice) 109 = .ok (.iastore, 1) by decide +kernel) ?_
    obtain rfl := Option.some.inj h
    refine v_wide (ce2 := 0) (sl2 := 0) (by decide) (by decide) ?_
    exact v_vret (pc := 110) rfl (show decode (tC tMd_choice) 110 = .ok (.return_, 1) by decide +kernel)
  · replace h := ite_f c h
    obtain rfl := Option.some.inj h
    refine v_wide (ce2 := 0) (sl2 := 0) (by decide) (by decide) ?_
    exact v_vret (pc := 62) rfl (show decode (tC tMd_choice) 62 = .ok (.return_, 1) by decide +kernel)
def fMd_choice_26  (x0 : Nat) (x1 : Int32) (x2 : Int32) (x3 : Int32) (x4 : Int32) (z0 : Nat) (S : Sx) : Option (Sx) :=
    fMd_choice_52  x0 x1 x2 x3 x4 1 z0 S
set_option maxRecDepth 100000 in
set_option maxHeartbeats 4000000 in
theorem wMd_choice_26 {Γ : vG} (hR : gR Γ = rMd_choice) (hl : (gl Γ).flags = pinnedFlags ++ [noTraceFlag]) {X : Sx}  : ∀ (x0 : Nat) (x1 : Int32) (x2 : Int32) (x3 : Int32) (x4 : Int32) (z0 : Nat) (S : Sx), fMd_choice_26  x0 x1 x2 x3 x4 z0 S = some X → vV Γ tMd_choice (mQ Γ 0 0 0 none X) S 0 0 26 [(0, .ref x0), (1, .int x1), (2, .int x2), (3, .int x3), (4, .int x4)] [.ref z0] := by
  intro x0 x1 x2 x3 x4 z0 S h
  unfold fMd_choice_26 at h
  refine v_iconst (pc := 26) (v := 1) (show decode (tC tMd_choice) 26 = .ok (.iconst 1, 1) by decide +kernel) (by decide) ?_
  refine v_goto (pc := 27) 52 (show decode (tC tMd_choice) 27 = .ok (.goto 25, 3) by decide +kernel) (by decide) ?_
  exact wMd_choice_52 hR hl  x0 x1 x2 x3 x4 1 z0 S h
def fMd_choice_47  (x0 : Nat) (x1 : Int32) (x2 : Int32) (x3 : Int32) (x4 : Int32) (z0 : Nat) (S : Sx) : Option (Sx) :=
    fMd_choice_52  x0 x1 x2 x3 x4 2 z0 S
set_option maxRecDepth 100000 in
set_option maxHeartbeats 4000000 in
theorem wMd_choice_47 {Γ : vG} (hR : gR Γ = rMd_choice) (hl : (gl Γ).flags = pinnedFlags ++ [noTraceFlag]) {X : Sx}  : ∀ (x0 : Nat) (x1 : Int32) (x2 : Int32) (x3 : Int32) (x4 : Int32) (z0 : Nat) (S : Sx), fMd_choice_47  x0 x1 x2 x3 x4 z0 S = some X → vV Γ tMd_choice (mQ Γ 0 0 0 none X) S 0 0 47 [(0, .ref x0), (1, .int x1), (2, .int x2), (3, .int x3), (4, .int x4)] [.ref z0] := by
  intro x0 x1 x2 x3 x4 z0 S h
  unfold fMd_choice_47 at h
  refine v_iconst (pc := 47) (v := 2) (show decode (tC tMd_choice) 47 = .ok (.iconst 2, 1) by decide +kernel) (by decide) ?_
  refine v_goto (pc := 48) 52 (show decode (tC tMd_choice) 48 = .ok (.goto 4, 3) by decide +kernel) (by decide) ?_
  exact wMd_choice_52 hR hl  x0 x1 x2 x3 x4 2 z0 S h
def fMd_choice (x0 : Nat) (x1 : Int32) (x2 : Int32) (x3 : Int32) (x4 : Int32) (S : Sx) : Option (Sx) :=
    (gI S 12 2 x0).bind fun v1 =>
    bd2 (fMd_in x1 v1 S) fun r4 S5 =>
    if r4 = 0 then
    (fMd_choice_26  x0 x1 x2 x3 x4 x0 S5)
    else
    (if x4 < (-2) then
    (fMd_choice_26  x0 x1 x2 x3 x4 x0 S5)
    else
    (if x4 ≤ 7 then
    ((gX S5 12 11 x0).bind fun v6 =>
    (aI S5 v6 x1).bind fun v8 =>
    if v8 = 4 then
    (fMd_choice_47  x0 x1 x2 x3 x4 x0 S5)
    else
    ((gI S5 12 7 x0).bind fun v10 =>
    if v10 = 0 then
    (fMd_choice_52  x0 x1 x2 x3 x4 0 x0 S5)
    else
    (fMd_choice_47  x0 x1 x2 x3 x4 x0 S5)))
    else
    (fMd_choice_26  x0 x1 x2 x3 x4 x0 S5)))
set_option maxRecDepth 100000 in
set_option maxHeartbeats 4000000 in
theorem wMd_choice {Γ : vG} (hR : gR Γ = rMd_choice) (hl : (gl Γ).flags = pinnedFlags ++ [noTraceFlag]) (x0 : Nat) (x1 : Int32) (x2 : Int32) (x3 : Int32) (x4 : Int32) (S : Sx) {X : Sx} (h : fMd_choice x0 x1 x2 x3 x4 S = some X) : vV Γ tMd_choice (mQ Γ 0 0 0 none X) S 0 0 0 [(0, .ref x0), (1, .int x1), (2, .int x2), (3, .int x3), (4, .int x4)] [] := by
  unfold fMd_choice at h
  refine v_aload_n (pc := 0) (show decode (tC tMd_choice) 0 = .ok (.aload_n 0, 1) by decide +kernel) 0 rfl rfl ?_
  refine v_iload_n (pc := 1) (show decode (tC tMd_choice) 1 = .ok (.iload_n 1, 1) by decide +kernel) 1 rfl rfl ?_
  refine v_aload_n (pc := 2) (show decode (tC tMd_choice) 2 = .ok (.aload_n 0, 1) by decide +kernel) 0 rfl rfl ?_
  obtain ⟨v1, e2, h⟩ := ob h
  refine v_getI (pc := 3) oF_Md_189 (by decide) e2 (show decode (tC tMd_choice) 3 = .ok (.getfield 189, 3) by decide +kernel) ?_
  obtain ⟨r4, S5, e3, h⟩ := ob2 h
  refine v_call (pc := 6) (v := (some (.int r4))) (y := yMd_in) (θ' := tMd_in) (rm := rMd_in) (av := [.int x1, .int v1]) (st := [.ref x0]) (cMd_in (l := gl Γ) hl e3) kMd_in iMd_in (iv_static (y := yMd_in) (θ' := tMd_in) (n := 2) (As := [.int x1, .int v1]) kMd_in (gT_in 1437 (by decide +kernel) rfl) sMd_in iMd_in mMd_in rfl (show decode (tC tMd_choice) 6 = .ok (.invokestatic 241, 3) by decide +kernel)) ⟨by rw [hR]; decide, by rw [hR]; decide, by rw [hR]; decide, by rw [hR]; decide⟩ (Nat.le_of_ble_eq_true rfl) ?_
  refine v_if_eq (pc := 9) 26 (show decode (tC tMd_choice) 9 = .ok (.ifCond .eq 17, 3) by decide +kernel) (by decide) (fun c => ?_) (fun c => ?_)
  · replace h := ite_t c h
    exact wMd_choice_26 hR hl  x0 x1 x2 x3 x4 x0 S5 h
  · replace h := ite_f c h
    refine v_iload (pc := 12) (show decode (tC tMd_choice) 12 = .ok (.iload 4, 2) by decide +kernel) 4 rfl ?_
    refine v_bipush (pc := 14) (v := (-2)) (show decode (tC tMd_choice) 14 = .ok (.bipush (-2), 2) by decide +kernel) (by decide) ?_
    refine v_icmp_lt (pc := 16) 26 (show decode (tC tMd_choice) 16 = .ok (.if_icmp .lt 10, 3) by decide +kernel) (by decide) (fun c => ?_) (fun c => ?_)
    · replace h := ite_t c h
      exact wMd_choice_26 hR hl  x0 x1 x2 x3 x4 x0 S5 h
    · replace h := ite_f c h
      refine v_iload (pc := 19) (show decode (tC tMd_choice) 19 = .ok (.iload 4, 2) by decide +kernel) 4 rfl ?_
      refine v_bipush (pc := 21) (v := 7) (show decode (tC tMd_choice) 21 = .ok (.bipush 7, 2) by decide +kernel) (by decide) ?_
      refine v_icmp_le (pc := 23) 30 (show decode (tC tMd_choice) 23 = .ok (.if_icmp .le 7, 3) by decide +kernel) (by decide) (fun c => ?_) (fun c => ?_)
      · replace h := ite_t c h
        refine v_aload_n (pc := 30) (show decode (tC tMd_choice) 30 = .ok (.aload_n 0, 1) by decide +kernel) 0 rfl rfl ?_
        obtain ⟨v6, e7, h⟩ := ob h
        refine v_getX (pc := 31) oF_Md_19 e7 (show decode (tC tMd_choice) 31 = .ok (.getfield 19, 3) by decide +kernel) ?_
        refine v_iload_n (pc := 34) (show decode (tC tMd_choice) 34 = .ok (.iload_n 1, 1) by decide +kernel) 1 rfl rfl ?_
        obtain ⟨v8, e9, h⟩ := ob h
        refine v_iald (pc := 35) e9 (show decode (tC tMd_choice) 35 = .ok (.iaload, 1) by decide +kernel) ?_
        refine v_iconst (pc := 36) (v := 4) (show decode (tC tMd_choice) 36 = .ok (.iconst 4, 1) by decide +kernel) (by decide) ?_
        refine v_icmp_eq (pc := 37) 47 (show decode (tC tMd_choice) 37 = .ok (.if_icmp .eq 10, 3) by decide +kernel) (by decide) (fun c => ?_) (fun c => ?_)
        · replace h := ite_t c h
          exact wMd_choice_47 hR hl  x0 x1 x2 x3 x4 x0 S5 h
        · replace h := ite_f c h
          refine v_aload_n (pc := 40) (show decode (tC tMd_choice) 40 = .ok (.aload_n 0, 1) by decide +kernel) 0 rfl rfl ?_
          obtain ⟨v10, e11, h⟩ := ob h
          refine v_getI (pc := 41) oF_Md_204 (by decide) e11 (show decode (tC tMd_choice) 41 = .ok (.getfield 204, 3) by decide +kernel) ?_
          refine v_if_eq (pc := 44) 51 (show decode (tC tMd_choice) 44 = .ok (.ifCond .eq 7, 3) by decide +kernel) (by decide) (fun c => ?_) (fun c => ?_)
          · replace h := ite_t c h
            refine v_iconst (pc := 51) (v := 0) (show decode (tC tMd_choice) 51 = .ok (.iconst 0, 1) by decide +kernel) (by decide) ?_
            exact wMd_choice_52 hR hl  x0 x1 x2 x3 x4 0 x0 S5 h
          · replace h := ite_f c h
            exact wMd_choice_47 hR hl  x0 x1 x2 x3 x4 x0 S5 h
      · replace h := ite_f c h
        exact wMd_choice_26 hR hl  x0 x1 x2 x3 x4 x0 S5 h
theorem cMd_choice {l : Launch} (hl : l.flags = pinnedFlags ++ [noTraceFlag]) {D : va_G} {dA : Nat → ClassId} {B : Nat} {x0 : Nat} {x1 : Int32} {x2 : Int32} {x3 : Int32} {x4 : Int32} {S : Sx} {X : Sx} (h : fMd_choice x0 x1 x2 x3 x4 S = some X) : Mx l yMd_choice tMd_choice rMd_choice 0 0 D dA B S [.ref x0, .int x1, .int x2, .int x3, .int x4] 0 none X :=
  mx_of hl (by decide) rfl rfl (Nat.le_of_ble_eq_true rfl) (fun Γ e1 e2 e3 e4 e5 => by subst e1; subst e3; subst e4; subst e5; exact wMd_choice e2 hl x0 x1 x2 x3 x4 S h)
/-! MatchPipeModel.otherwise(II)V -/
def yMd_otherwise : MethodName := ⟨"MatchPipeModel", "otherwise", "(II)V"⟩
def tMd_otherwise : tM := (prog_14_method_8_code, "MatchPipeModel", 3, "otherwise", none, [])
def rMd_otherwise : Room := { frames := 1, cells := 0, slots := 0, locals := 21 }
theorem kMd_otherwise : cOf yMd_otherwise tMd_otherwise ∈ gT := gT_in 1447 (by decide +kernel) rfl
theorem iMd_otherwise : Cond.initialized yMd_otherwise.cls ∈ gT := gT_in 68 (by decide +kernel) rfl
theorem mMd_otherwise : okM yMd_otherwise 2 := ⟨by decide, by decide, by unfold nPar; decide +kernel⟩
theorem nMd_otherwise : Cond.instanceMethod yMd_otherwise ∈ gT := gT_in 1445 (by decide +kernel) rfl
theorem lMd_otherwise : Cond.selects "MatchPipeModel" yMd_otherwise yMd_otherwise ∈ gT := gT_in 1446 (by decide +kernel) rfl
def fMd_otherwise_40  (x0 : Nat) (x1 : Int32) (x2 : Int32) (z0 : Int32) (z1 : Nat) (S : Sx) : Option (Sx) :=
    (pI S 12 0 z1 z0).bind fun S1 =>
    (gI S1 12 0 x0).bind fun v3 =>
    if v3 = 0 then
    ((gX S1 12 15 x0).bind fun v5 =>
    (qI S1 v5 x1 x2).bind fun S7 =>
    some S7)
    else
    (some S1)
set_option maxRecDepth 100000 in
set_option maxHeartbeats 4000000 in
theorem wMd_otherwise_40 {Γ : vG} (hR : gR Γ = rMd_otherwise) (hl : (gl Γ).flags = pinnedFlags ++ [noTraceFlag]) {X : Sx}  : ∀ (x0 : Nat) (x1 : Int32) (x2 : Int32) (z0 : Int32) (z1 : Nat) (S : Sx), fMd_otherwise_40  x0 x1 x2 z0 z1 S = some X → vV Γ tMd_otherwise (mQ Γ 0 0 0 none X) S 0 0 40 [(0, .ref x0), (1, .int x1), (2, .int x2)] [.int z0, .ref z1] := by
  intro x0 x1 x2 z0 z1 S h
  unfold fMd_otherwise_40 at h
  obtain ⟨S1, e2, h⟩ := ob h
  refine v_putI (pc := 40) oF_Md_183 (fin_ok (kd := 12) (k := 0) (by decide +kernel)) e2 (show decode (tC tMd_otherwise) 40 = .ok (.putfield 183, 3) by decide +kernel) ?_
  refine v_aload_n (pc := 43) (show decode (tC tMd_otherwise) 43 = .ok (.aload_n 0, 1) by decide +kernel) 0 rfl rfl ?_
  obtain ⟨v3, e4, h⟩ := ob h
  refine v_getI (pc := 44) oF_Md_183 (by decide) e4 (show decode (tC tMd_otherwise) 44 = .ok (.getfield 183, 3) by decide +kernel) ?_
  refine v_if_ne (pc := 47) 57 (show decode (tC tMd_otherwise) 47 = .ok (.ifCond .ne 10, 3) by decide +kernel) (by decide) (fun c => ?_) (fun c => ?_)
  · replace h := ite_f c h
    obtain rfl := Option.some.inj h
    refine v_wide (ce2 := 0) (sl2 := 0) (by decide) (by decide) ?_
    exact v_vret (pc := 57) rfl (show decode (tC tMd_otherwise) 57 = .ok (.return_, 1) by decide +kernel)
  · replace h := ite_t c h
    refine v_aload_n (pc := 50) (show decode (tC tMd_otherwise) 50 = .ok (.aload_n 0, 1) by decide +kernel) 0 rfl rfl ?_
    obtain ⟨v5, e6, h⟩ := ob h
    refine v_getX (pc := 51) oF_Md_31 e6 (show decode (tC tMd_otherwise) 51 = .ok (.getfield 31, 3) by decide +kernel) ?_
    refine v_iload_n (pc := 54) (show decode (tC tMd_otherwise) 54 = .ok (.iload_n 1, 1) by decide +kernel) 1 rfl rfl ?_
    refine v_iload_n (pc := 55) (show decode (tC tMd_otherwise) 55 = .ok (.iload_n 2, 1) by decide +kernel) 2 rfl rfl ?_
    obtain ⟨S7, e8, h⟩ := ob h
    refine v_iast (pc := 56) e8 (show decode (tC tMd_otherwise) 56 = .ok (.iastore, 1) by decide +kernel) ?_
    obtain rfl := Option.some.inj h
    refine v_wide (ce2 := 0) (sl2 := 0) (by decide) (by decide) ?_
    exact v_vret (pc := 57) rfl (show decode (tC tMd_otherwise) 57 = .ok (.return_, 1) by decide +kernel)
def fMd_otherwise_24  (x0 : Nat) (x1 : Int32) (x2 : Int32) (z0 : Nat) (S : Sx) : Option (Sx) :=
    fMd_otherwise_40  x0 x1 x2 1 z0 S
set_option maxRecDepth 100000 in
set_option maxHeartbeats 4000000 in
theorem wMd_otherwise_24 {Γ : vG} (hR : gR Γ = rMd_otherwise) (hl : (gl Γ).flags = pinnedFlags ++ [noTraceFlag]) {X : Sx}  : ∀ (x0 : Nat) (x1 : Int32) (x2 : Int32) (z0 : Nat) (S : Sx), fMd_otherwise_24  x0 x1 x2 z0 S = some X → vV Γ tMd_otherwise (mQ Γ 0 0 0 none X) S 0 0 24 [(0, .ref x0), (1, .int x1), (2, .int x2)] [.ref z0] := by
  intro x0 x1 x2 z0 S h
  unfold fMd_otherwise_24 at h
  refine v_iconst (pc := 24) (v := 1) (show decode (tC tMd_otherwise) 24 = .ok (.iconst 1, 1) by decide +kernel) (by decide) ?_
  refine v_goto (pc := 25) 40 (show decode (tC tMd_otherwise) 25 = .ok (.goto 15, 3) by decide +kernel) (by decide) ?_
  exact wMd_otherwise_40 hR hl  x0 x1 x2 1 z0 S h
def fMd_otherwise (x0 : Nat) (x1 : Int32) (x2 : Int32) (S : Sx) : Option (Sx) :=
    (gI S 12 2 x0).bind fun v1 =>
    bd2 (fMd_in x1 v1 S) fun r4 S5 =>
    if r4 = 0 then
    (fMd_otherwise_24  x0 x1 x2 x0 S5)
    else
    (if x2 < (-2) then
    (fMd_otherwise_24  x0 x1 x2 x0 S5)
    else
    (if x2 ≤ 7 then
    ((gI S5 12 7 x0).bind fun v6 =>
    if v6 = 0 then
    (fMd_otherwise_40  x0 x1 x2 0 x0 S5)
    else
    (fMd_otherwise_40  x0 x1 x2 2 x0 S5))
    else
    (fMd_otherwise_24  x0 x1 x2 x0 S5)))
set_option maxRecDepth 100000 in
set_option maxHeartbeats 4000000 in
theorem wMd_otherwise {Γ : vG} (hR : gR Γ = rMd_otherwise) (hl : (gl Γ).flags = pinnedFlags ++ [noTraceFlag]) (x0 : Nat) (x1 : Int32) (x2 : Int32) (S : Sx) {X : Sx} (h : fMd_otherwise x0 x1 x2 S = some X) : vV Γ tMd_otherwise (mQ Γ 0 0 0 none X) S 0 0 0 [(0, .ref x0), (1, .int x1), (2, .int x2)] [] := by
  unfold fMd_otherwise at h
  refine v_aload_n (pc := 0) (show decode (tC tMd_otherwise) 0 = .ok (.aload_n 0, 1) by decide +kernel) 0 rfl rfl ?_
  refine v_iload_n (pc := 1) (show decode (tC tMd_otherwise) 1 = .ok (.iload_n 1, 1) by decide +kernel) 1 rfl rfl ?_
  refine v_aload_n (pc := 2) (show decode (tC tMd_otherwise) 2 = .ok (.aload_n 0, 1) by decide +kernel) 0 rfl rfl ?_
  obtain ⟨v1, e2, h⟩ := ob h
  refine v_getI (pc := 3) oF_Md_189 (by decide) e2 (show decode (tC tMd_otherwise) 3 = .ok (.getfield 189, 3) by decide +kernel) ?_
  obtain ⟨r4, S5, e3, h⟩ := ob2 h
  refine v_call (pc := 6) (v := (some (.int r4))) (y := yMd_in) (θ' := tMd_in) (rm := rMd_in) (av := [.int x1, .int v1]) (st := [.ref x0]) (cMd_in (l := gl Γ) hl e3) kMd_in iMd_in (iv_static (y := yMd_in) (θ' := tMd_in) (n := 2) (As := [.int x1, .int v1]) kMd_in (gT_in 1437 (by decide +kernel) rfl) sMd_in iMd_in mMd_in rfl (show decode (tC tMd_otherwise) 6 = .ok (.invokestatic 241, 3) by decide +kernel)) ⟨by rw [hR]; decide, by rw [hR]; decide, by rw [hR]; decide, by rw [hR]; decide⟩ (Nat.le_of_ble_eq_true rfl) ?_
  refine v_if_eq (pc := 9) 24 (show decode (tC tMd_otherwise) 9 = .ok (.ifCond .eq 15, 3) by decide +kernel) (by decide) (fun c => ?_) (fun c => ?_)
  · replace h := ite_t c h
    exact wMd_otherwise_24 hR hl  x0 x1 x2 x0 S5 h
  · replace h := ite_f c h
    refine v_iload_n (pc := 12) (show decode (tC tMd_otherwise) 12 = .ok (.iload_n 2, 1) by decide +kernel) 2 rfl rfl ?_
    refine v_bipush (pc := 13) (v := (-2)) (show decode (tC tMd_otherwise) 13 = .ok (.bipush (-2), 2) by decide +kernel) (by decide) ?_
    refine v_icmp_lt (pc := 15) 24 (show decode (tC tMd_otherwise) 15 = .ok (.if_icmp .lt 9, 3) by decide +kernel) (by decide) (fun c => ?_) (fun c => ?_)
    · replace h := ite_t c h
      exact wMd_otherwise_24 hR hl  x0 x1 x2 x0 S5 h
    · replace h := ite_f c h
      refine v_iload_n (pc := 18) (show decode (tC tMd_otherwise) 18 = .ok (.iload_n 2, 1) by decide +kernel) 2 rfl rfl ?_
      refine v_bipush (pc := 19) (v := 7) (show decode (tC tMd_otherwise) 19 = .ok (.bipush 7, 2) by decide +kernel) (by decide) ?_
      refine v_icmp_le (pc := 21) 28 (show decode (tC tMd_otherwise) 21 = .ok (.if_icmp .le 7, 3) by decide +kernel) (by decide) (fun c => ?_) (fun c => ?_)
      · replace h := ite_t c h
        refine v_aload_n (pc := 28) (show decode (tC tMd_otherwise) 28 = .ok (.aload_n 0, 1) by decide +kernel) 0 rfl rfl ?_
        obtain ⟨v6, e7, h⟩ := ob h
        refine v_getI (pc := 29) oF_Md_204 (by decide) e7 (show decode (tC tMd_otherwise) 29 = .ok (.getfield 204, 3) by decide +kernel) ?_
        refine v_if_eq (pc := 32) 39 (show decode (tC tMd_otherwise) 32 = .ok (.ifCond .eq 7, 3) by decide +kernel) (by decide) (fun c => ?_) (fun c => ?_)
        · replace h := ite_t c h
          refine v_iconst (pc := 39) (v := 0) (show decode (tC tMd_otherwise) 39 = .ok (.iconst 0, 1) by decide +kernel) (by decide) ?_
          exact wMd_otherwise_40 hR hl  x0 x1 x2 0 x0 S5 h
        · replace h := ite_f c h
          refine v_iconst (pc := 35) (v := 2) (show decode (tC tMd_otherwise) 35 = .ok (.iconst 2, 1) by decide +kernel) (by decide) ?_
          refine v_goto (pc := 36) 40 (show decode (tC tMd_otherwise) 36 = .ok (.goto 4, 3) by decide +kernel) (by decide) ?_
          exact wMd_otherwise_40 hR hl  x0 x1 x2 2 x0 S5 h
      · replace h := ite_f c h
        exact wMd_otherwise_24 hR hl  x0 x1 x2 x0 S5 h
theorem cMd_otherwise {l : Launch} (hl : l.flags = pinnedFlags ++ [noTraceFlag]) {D : va_G} {dA : Nat → ClassId} {B : Nat} {x0 : Nat} {x1 : Int32} {x2 : Int32} {S : Sx} {X : Sx} (h : fMd_otherwise x0 x1 x2 S = some X) : Mx l yMd_otherwise tMd_otherwise rMd_otherwise 0 0 D dA B S [.ref x0, .int x1, .int x2] 0 none X :=
  mx_of hl (by decide) rfl rfl (Nat.le_of_ble_eq_true rfl) (fun Γ e1 e2 e3 e4 e5 => by subst e1; subst e3; subst e4; subst e5; exact wMd_otherwise e2 hl x0 x1 x2 S h)
/-! MatchPipeModel.action()I -/
def yMd_action : MethodName := ⟨"MatchPipeModel", "action", "()I"⟩
def tMd_action : tM := (prog_14_method_9_code, "MatchPipeModel", 1, "action", some .int, [])
def rMd_action : Room := { frames := 0, cells := 0, slots := 0, locals := 0 }
theorem kMd_action : cOf yMd_action tMd_action ∈ gT := gT_in 1451 (by decide +kernel) rfl
theorem iMd_action : Cond.initialized yMd_action.cls ∈ gT := gT_in 68 (by decide +kernel) rfl
theorem mMd_action : okM yMd_action 0 := ⟨by decide, by decide, by unfold nPar; decide +kernel⟩
theorem nMd_action : Cond.instanceMethod yMd_action ∈ gT := gT_in 1449 (by decide +kernel) rfl
theorem lMd_action : Cond.selects "MatchPipeModel" yMd_action yMd_action ∈ gT := gT_in 1450 (by decide +kernel) rfl
def fMd_action_22  (x0 : Nat) (z0 : Int32) (z1 : Nat) (S : Sx) : Option (Int32 × Sx) :=
    (pI S 12 0 z1 z0).bind fun S1 =>
    (gI S1 12 0 x0).bind fun v3 =>
    if v3 ≤ 0 then
    ((gX S1 12 16 x0).bind fun v5 =>
    (gI S1 12 3 x0).bind fun v7 =>
    (qI S1 v5 v7 0).bind fun S9 =>
    (gI S9 12 3 x0).bind fun v11 =>
    (pI S9 12 3 x0 (v11 + 1)).bind fun S13 =>
    (gI S13 12 3 x0).bind fun v15 =>
    some (v15 - 1, S13))
    else
    (some (0, S1))
set_option maxRecDepth 100000 in
set_option maxHeartbeats 4000000 in
theorem wMd_action_22 {Γ : vG} (hR : gR Γ = rMd_action) (hl : (gl Γ).flags = pinnedFlags ++ [noTraceFlag]) {X : Int32 × Sx}  : ∀ (x0 : Nat) (z0 : Int32) (z1 : Nat) (S : Sx), fMd_action_22  x0 z0 z1 S = some X → vV Γ tMd_action (mQ Γ 0 0 0 (some (.int X.1)) X.2) S 0 0 22 [(0, .ref x0)] [.int z0, .ref z1] := by
  intro x0 z0 z1 S h
  unfold fMd_action_22 at h
  obtain ⟨S1, e2, h⟩ := ob h
  refine v_putI (pc := 22) oF_Md_183 (fin_ok (kd := 12) (k := 0) (by decide +kernel)) e2 (show decode (tC tMd_action) 22 = .ok (.putfield 183, 3) by decide +kernel) ?_
  refine v_aload_n (pc := 25) (show decode (tC tMd_action) 25 = .ok (.aload_n 0, 1) by decide +kernel) 0 rfl rfl ?_
  obtain ⟨v3, e4, h⟩ := ob h
  refine v_getI (pc := 26) oF_Md_183 (by decide) e4 (show decode (tC tMd_action) 26 = .ok (.getfield 183, 3) by decide +kernel) ?_
  refine v_if_le (pc := 29) 34 (show decode (tC tMd_action) 29 = .ok (.ifCond .le 5, 3) by decide +kernel) (by decide) (fun c => ?_) (fun c => ?_)
  · replace h := ite_t c h
    refine v_aload_n (pc := 34) (show decode (tC tMd_action) 34 = .ok (.aload_n 0, 1) by decide +kernel) 0 rfl rfl ?_
    obtain ⟨v5, e6, h⟩ := ob h
    refine v_getX (pc := 35) oF_Md_34 e6 (show decode (tC tMd_action) 35 = .ok (.getfield 34, 3) by decide +kernel) ?_
    refine v_aload_n (pc := 38) (show decode (tC tMd_action) 38 = .ok (.aload_n 0, 1) by decide +kernel) 0 rfl rfl ?_
    obtain ⟨v7, e8, h⟩ := ob h
    refine v_getI (pc := 39) oF_Md_192 (by decide) e8 (show decode (tC tMd_action) 39 = .ok (.getfield 192, 3) by decide +kernel) ?_
    refine v_iconst (pc := 42) (v := 0) (show decode (tC tMd_action) 42 = .ok (.iconst 0, 1) by decide +kernel) (by decide) ?_
    obtain ⟨S9, e10, h⟩ := ob h
    refine v_iast (pc := 43) e10 (show decode (tC tMd_action) 43 = .ok (.iastore, 1) by decide +kernel) ?_
    refine v_aload_n (pc := 44) (show decode (tC tMd_action) 44 = .ok (.aload_n 0, 1) by decide +kernel) 0 rfl rfl ?_
    refine v_dup (pc := 45) (show decode (tC tMd_action) 45 = .ok (.dup, 1) by decide +kernel) rfl ?_
    obtain ⟨v11, e12, h⟩ := ob h
    refine v_getI (pc := 46) oF_Md_192 (by decide) e12 (show decode (tC tMd_action) 46 = .ok (.getfield 192, 3) by decide +kernel) ?_
    refine v_iconst (pc := 49) (v := 1) (show decode (tC tMd_action) 49 = .ok (.iconst 1, 1) by decide +kernel) (by decide) ?_
    refine v_iadd (pc := 50) (show decode (tC tMd_action) 50 = .ok (.iadd, 1) by decide +kernel) ?_
    obtain ⟨S13, e14, h⟩ := ob h
    refine v_putI (pc := 51) oF_Md_192 (fin_ok (kd := 12) (k := 3) (by decide +kernel)) e14 (show decode (tC tMd_action) 51 = .ok (.putfield 192, 3) by decide +kernel) ?_
    refine v_aload_n (pc := 54) (show decode (tC tMd_action) 54 = .ok (.aload_n 0, 1) by decide +kernel) 0 rfl rfl ?_
    obtain ⟨v15, e16, h⟩ := ob h
    refine v_getI (pc := 55) oF_Md_192 (by decide) e16 (show decode (tC tMd_action) 55 = .ok (.getfield 192, 3) by decide +kernel) ?_
    refine v_iconst (pc := 58) (v := 1) (show decode (tC tMd_action) 58 = .ok (.iconst 1, 1) by decide +kernel) (by decide) ?_
    refine v_isub (pc := 59) (show decode (tC tMd_action) 59 = .ok (.isub, 1) by decide +kernel) ?_
    obtain rfl := Option.some.inj h
    refine v_wide (ce2 := 0) (sl2 := 0) (by decide) (by decide) ?_
    exact v_iret (pc := 60) rfl (show decode (tC tMd_action) 60 = .ok (.ireturn, 1) by decide +kernel)
  · replace h := ite_f c h
    refine v_iconst (pc := 32) (v := 0) (show decode (tC tMd_action) 32 = .ok (.iconst 0, 1) by decide +kernel) (by decide) ?_
    obtain rfl := Option.some.inj h
    refine v_wide (ce2 := 0) (sl2 := 0) (by decide) (by decide) ?_
    exact v_iret (pc := 33) rfl (show decode (tC tMd_action) 33 = .ok (.ireturn, 1) by decide +kernel)
def fMd_action_17  (x0 : Nat) (z0 : Nat) (S : Sx) : Option (Int32 × Sx) :=
    fMd_action_22  x0 1 z0 S
set_option maxRecDepth 100000 in
set_option maxHeartbeats 4000000 in
theorem wMd_action_17 {Γ : vG} (hR : gR Γ = rMd_action) (hl : (gl Γ).flags = pinnedFlags ++ [noTraceFlag]) {X : Int32 × Sx}  : ∀ (x0 : Nat) (z0 : Nat) (S : Sx), fMd_action_17  x0 z0 S = some X → vV Γ tMd_action (mQ Γ 0 0 0 (some (.int X.1)) X.2) S 0 0 17 [(0, .ref x0)] [.ref z0] := by
  intro x0 z0 S h
  unfold fMd_action_17 at h
  refine v_iconst (pc := 17) (v := 1) (show decode (tC tMd_action) 17 = .ok (.iconst 1, 1) by decide +kernel) (by decide) ?_
  refine v_goto (pc := 18) 22 (show decode (tC tMd_action) 18 = .ok (.goto 4, 3) by decide +kernel) (by decide) ?_
  exact wMd_action_22 hR hl  x0 1 z0 S h
def fMd_action (x0 : Nat) (S : Sx) : Option (Int32 × Sx) :=
    (gI S 12 3 x0).bind fun v1 =>
    if v1 = 16 then
    (fMd_action_17  x0 x0 S)
    else
    ((gI S 12 7 x0).bind fun v3 =>
    if v3 = 0 then
    (fMd_action_22  x0 0 x0 S)
    else
    (fMd_action_17  x0 x0 S))
set_option maxRecDepth 100000 in
set_option maxHeartbeats 4000000 in
theorem wMd_action {Γ : vG} (hR : gR Γ = rMd_action) (hl : (gl Γ).flags = pinnedFlags ++ [noTraceFlag]) (x0 : Nat) (S : Sx) {X : Int32 × Sx} (h : fMd_action x0 S = some X) : vV Γ tMd_action (mQ Γ 0 0 0 (some (.int X.1)) X.2) S 0 0 0 [(0, .ref x0)] [] := by
  unfold fMd_action at h
  refine v_aload_n (pc := 0) (show decode (tC tMd_action) 0 = .ok (.aload_n 0, 1) by decide +kernel) 0 rfl rfl ?_
  refine v_aload_n (pc := 1) (show decode (tC tMd_action) 1 = .ok (.aload_n 0, 1) by decide +kernel) 0 rfl rfl ?_
  obtain ⟨v1, e2, h⟩ := ob h
  refine v_getI (pc := 2) oF_Md_192 (by decide) e2 (show decode (tC tMd_action) 2 = .ok (.getfield 192, 3) by decide +kernel) ?_
  refine v_bipush (pc := 5) (v := 16) (show decode (tC tMd_action) 5 = .ok (.bipush 16, 2) by decide +kernel) (by decide) ?_
  refine v_icmp_eq (pc := 7) 17 (show decode (tC tMd_action) 7 = .ok (.if_icmp .eq 10, 3) by decide +kernel) (by decide) (fun c => ?_) (fun c => ?_)
  · replace h := ite_t c h
    exact wMd_action_17 hR hl  x0 x0 S h
  · replace h := ite_f c h
    refine v_aload_n (pc := 10) (show decode (tC tMd_action) 10 = .ok (.aload_n 0, 1) by decide +kernel) 0 rfl rfl ?_
    obtain ⟨v3, e4, h⟩ := ob h
    refine v_getI (pc := 11) oF_Md_204 (by decide) e4 (show decode (tC tMd_action) 11 = .ok (.getfield 204, 3) by decide +kernel) ?_
    refine v_if_eq (pc := 14) 21 (show decode (tC tMd_action) 14 = .ok (.ifCond .eq 7, 3) by decide +kernel) (by decide) (fun c => ?_) (fun c => ?_)
    · replace h := ite_t c h
      refine v_iconst (pc := 21) (v := 0) (show decode (tC tMd_action) 21 = .ok (.iconst 0, 1) by decide +kernel) (by decide) ?_
      exact wMd_action_22 hR hl  x0 0 x0 S h
    · replace h := ite_f c h
      exact wMd_action_17 hR hl  x0 x0 S h
theorem cMd_action {l : Launch} (hl : l.flags = pinnedFlags ++ [noTraceFlag]) {D : va_G} {dA : Nat → ClassId} {B : Nat} {x0 : Nat} {S : Sx} {X : Int32 × Sx} (h : fMd_action x0 S = some X) : Mx l yMd_action tMd_action rMd_action 0 0 D dA B S [.ref x0] 0 (some (.int X.1)) X.2 :=
  mx_of hl (by decide) rfl rfl (Nat.le_of_ble_eq_true rfl) (fun Γ e1 e2 e3 e4 e5 => by subst e1; subst e3; subst e4; subst e5; exact wMd_action e2 hl x0 S h)
/-! MatchPipeModel.isThere(IIII)Z -/
def yMd_isThere : MethodName := ⟨"MatchPipeModel", "isThere", "(IIII)Z"⟩
def tMd_isThere : tM := (prog_14_method_10_code, "MatchPipeModel", 5, "isThere", some .boolean, [])
def rMd_isThere : Room := { frames := 1, cells := 0, slots := 0, locals := 21 }
theorem kMd_isThere : cOf yMd_isThere tMd_isThere ∈ gT := gT_in 1459 (by decide +kernel) rfl
theorem iMd_isThere : Cond.initialized yMd_isThere.cls ∈ gT := gT_in 68 (by decide +kernel) rfl
theorem mMd_isThere : okM yMd_isThere 4 := ⟨by decide, by decide, by unfold nPar; decide +kernel⟩
theorem nMd_isThere : Cond.instanceMethod yMd_isThere ∈ gT := gT_in 1458 (by decide +kernel) rfl
theorem lMd_isThere : Cond.selects "MatchPipeModel" yMd_isThere yMd_isThere ∈ gT := gT_in 24 (by decide +kernel) rfl
def fMd_isThere (x0 : Nat) (x1 : Int32) (x2 : Int32) (x3 : Int32) (x4 : Int32) (S : Sx) : Option (Int32 × Sx) :=
    if x1 = 0 then
    ((gI S 12 1 x0).bind fun v1 =>
    bd2 (fMd_in x2 v1 S) fun r4 S5 =>
    zb r4 (some (r4, S5)))
    else if x1 = 1 then
    ((gI S 12 1 x0).bind fun v7 =>
    bd2 (fMd_in x2 v7 S) fun r10 S11 =>
    if r10 = 0 then
    (some (0, S11))
    else
    ((gI S11 12 1 x0).bind fun v12 =>
    bd2 (fMd_in x3 v12 S11) fun r15 S16 =>
    if r15 = 0 then
    (some (0, S16))
    else
    (some (1, S16))))
    else if x1 = 2 then
    ((gI S 12 1 x0).bind fun v17 =>
    bd2 (fMd_in x2 v17 S) fun r20 S21 =>
    if r20 = 0 then
    (some (0, S21))
    else
    ((gI S21 12 1 x0).bind fun v22 =>
    bd2 (fMd_in x3 v22 S21) fun r25 S26 =>
    if r25 = 0 then
    (some (0, S26))
    else
    (some (1, S26))))
    else if x1 = 3 then
    ((gI S 12 1 x0).bind fun v27 =>
    bd2 (fMd_in x2 v27 S) fun r30 S31 =>
    if r30 = 0 then
    (some (0, S31))
    else
    (bd2 (fMd_in x3 2 S31) fun r33 S34 =>
    if r33 = 0 then
    (some (0, S34))
    else
    (some (1, S34))))
    else if x1 = 4 then
    (some (1, S))
    else if x1 = 5 then
    (bd2 (fMd_in x3 2 S) fun r36 S37 =>
    zb r36 (some (r36, S37)))
    else if x1 = 6 then
    (some (1, S))
    else if x1 = 7 then
    (bd2 (fMd_in x2 4 S) fun r40 S41 =>
    if r40 = 0 then
    (some (0, S41))
    else
    ((gI S41 12 1 x0).bind fun v42 =>
    bd2 (fMd_in x3 v42 S41) fun r45 S46 =>
    if r45 = 0 then
    (some (0, S46))
    else
    (some (1, S46))))
    else if x1 = 8 then
    ((gI S 12 1 x0).bind fun v47 =>
    bd2 (fMd_in x2 v47 S) fun r50 S51 =>
    if r50 = 0 then
    (some (0, S51))
    else
    ((gI S51 12 1 x0).bind fun v52 =>
    bd2 (fMd_in x3 v52 S51) fun r55 S56 =>
    if r55 = 0 then
    (some (0, S56))
    else
    (bd2 (fMd_in x4 4 S56) fun r58 S59 =>
    if r58 = 0 then
    (some (0, S59))
    else
    (some (1, S59)))))
    else 
    (some (1, S))
set_option maxRecDepth 100000 in
set_option maxHeartbeats 4000000 in
theorem wMd_isThere {Γ : vG} (hR : gR Γ = rMd_isThere) (hl : (gl Γ).flags = pinnedFlags ++ [noTraceFlag]) (x0 : Nat) (x1 : Int32) (x2 : Int32) (x3 : Int32) (x4 : Int32) (S : Sx) {X : Int32 × Sx} (h : fMd_isThere x0 x1 x2 x3 x4 S = some X) : vV Γ tMd_isThere (mQ Γ 0 0 0 (some (.int X.1)) X.2) S 0 0 0 [(0, .ref x0), (1, .int x1), (2, .int x2), (3, .int x3), (4, .int x4)] [] := by
  unfold fMd_isThere at h
  refine v_iload_n (pc := 0) (show decode (tC tMd_isThere) 0 = .ok (.iload_n 1, 1) by decide +kernel) 1 rfl rfl ?_
  by_cases c0 : x1 = 0
  · replace h := ite_t c0 h
    refine v_tblIn (pc := 1) (off := 51) 52 (show decode (tC tMd_isThere) 1 = .ok (.tableswitch 181 0 8 #[51, 60, 60, 88, 181, 113, 181, 119, 144], 51) by decide +kernel) (by rw [c0]; decide) (by rw [c0]; decide) (by rw [c0]; decide) (by decide) ?_
    refine v_iload_n (pc := 52) (show decode (tC tMd_isThere) 52 = .ok (.iload_n 2, 1) by decide +kernel) 2 rfl rfl ?_
    refine v_aload_n (pc := 53) (show decode (tC tMd_isThere) 53 = .ok (.aload_n 0, 1) by decide +kernel) 0 rfl rfl ?_
    obtain ⟨v1, e2, h⟩ := ob h
    refine v_getI (pc := 54) oF_Md_186 (by decide) e2 (show decode (tC tMd_isThere) 54 = .ok (.getfield 186, 3) by decide +kernel) ?_
    obtain ⟨r4, S5, e3, h⟩ := ob2 h
    refine v_call (pc := 57) (v := (some (.int r4))) (y := yMd_in) (θ' := tMd_in) (rm := rMd_in) (av := [.int x2, .int v1]) (st := []) (cMd_in (l := gl Γ) hl e3) kMd_in iMd_in (iv_static (y := yMd_in) (θ' := tMd_in) (n := 2) (As := [.int x2, .int v1]) kMd_in (gT_in 1437 (by decide +kernel) rfl) sMd_in iMd_in mMd_in rfl (show decode (tC tMd_isThere) 57 = .ok (.invokestatic 241, 3) by decide +kernel)) ⟨by rw [hR]; decide, by rw [hR]; decide, by rw [hR]; decide, by rw [hR]; decide⟩ (Nat.le_of_ble_eq_true rfl) ?_
    obtain ⟨e6, h⟩ := zb_of h
    obtain rfl := Option.some.inj h
    refine v_wide (ce2 := 0) (sl2 := 0) (by decide) (by decide) ?_
    exact v_zret (pc := 60) rfl e6 (show decode (tC tMd_isThere) 60 = .ok (.ireturn, 1) by decide +kernel)
  · replace h := ite_f c0 h
    by_cases c1 : x1 = 1
    · replace h := ite_t c1 h
      refine v_tblIn (pc := 1) (off := 60) 61 (show decode (tC tMd_isThere) 1 = .ok (.tableswitch 181 0 8 #[51, 60, 60, 88, 181, 113, 181, 119, 144], 51) by decide +kernel) (by rw [c1]; decide) (by rw [c1]; decide) (by rw [c1]; decide) (by decide) ?_
      refine v_iload_n (pc := 61) (show decode (tC tMd_isThere) 61 = .ok (.iload_n 2, 1) by decide +kernel) 2 rfl rfl ?_
      refine v_aload_n (pc := 62) (show decode (tC tMd_isThere) 62 = .ok (.aload_n 0, 1) by decide +kernel) 0 rfl rfl ?_
      obtain ⟨v7, e8, h⟩ := ob h
      refine v_getI (pc := 63) oF_Md_186 (by decide) e8 (show decode (tC tMd_isThere) 63 = .ok (.getfield 186, 3) by decide +kernel) ?_
      obtain ⟨r10, S11, e9, h⟩ := ob2 h
      refine v_call (pc := 66) (v := (some (.int r10))) (y := yMd_in) (θ' := tMd_in) (rm := rMd_in) (av := [.int x2, .int v7]) (st := []) (cMd_in (l := gl Γ) hl e9) kMd_in iMd_in (iv_static (y := yMd_in) (θ' := tMd_in) (n := 2) (As := [.int x2, .int v7]) kMd_in (gT_in 1437 (by decide +kernel) rfl) sMd_in iMd_in mMd_in rfl (show decode (tC tMd_isThere) 66 = .ok (.invokestatic 241, 3) by decide +kernel)) ⟨by rw [hR]; decide, by rw [hR]; decide, by rw [hR]; decide, by rw [hR]; decide⟩ (Nat.le_of_ble_eq_true rfl) ?_
      refine v_if_eq (pc := 69) 87 (show decode (tC tMd_isThere) 69 = .ok (.ifCond .eq 18, 3) by decide +kernel) (by decide) (fun c => ?_) (fun c => ?_)
      · replace h := ite_t c h
        refine v_iconst (pc := 87) (v := 0) (show decode (tC tMd_isThere) 87 = .ok (.iconst 0, 1) by decide +kernel) (by decide) ?_
        obtain rfl := Option.some.inj h
        refine v_wide (ce2 := 0) (sl2 := 0) (by decide) (by decide) ?_
        exact v_zret (pc := 88) rfl (Or.inl rfl) (show decode (tC tMd_isThere) 88 = .ok (.ireturn, 1) by decide +kernel)
      · replace h := ite_f c h
        refine v_iload_n (pc := 72) (show decode (tC tMd_isThere) 72 = .ok (.iload_n 3, 1) by decide +kernel) 3 rfl rfl ?_
        refine v_aload_n (pc := 73) (show decode (tC tMd_isThere) 73 = .ok (.aload_n 0, 1) by decide +kernel) 0 rfl rfl ?_
        obtain ⟨v12, e13, h⟩ := ob h
        refine v_getI (pc := 74) oF_Md_186 (by decide) e13 (show decode (tC tMd_isThere) 74 = .ok (.getfield 186, 3) by decide +kernel) ?_
        obtain ⟨r15, S16, e14, h⟩ := ob2 h
        refine v_call (pc := 77) (v := (some (.int r15))) (y := yMd_in) (θ' := tMd_in) (rm := rMd_in) (av := [.int x3, .int v12]) (st := []) (cMd_in (l := gl Γ) hl e14) kMd_in iMd_in (iv_static (y := yMd_in) (θ' := tMd_in) (n := 2) (As := [.int x3, .int v12]) kMd_in (gT_in 1437 (by decide +kernel) rfl) sMd_in iMd_in mMd_in rfl (show decode (tC tMd_isThere) 77 = .ok (.invokestatic 241, 3) by decide +kernel)) ⟨by rw [hR]; decide, by rw [hR]; decide, by rw [hR]; decide, by rw [hR]; decide⟩ (Nat.le_of_ble_eq_true rfl) ?_
        refine v_if_eq (pc := 80) 87 (show decode (tC tMd_isThere) 80 = .ok (.ifCond .eq 7, 3) by decide +kernel) (by decide) (fun c => ?_) (fun c => ?_)
        · replace h := ite_t c h
          refine v_iconst (pc := 87) (v := 0) (show decode (tC tMd_isThere) 87 = .ok (.iconst 0, 1) by decide +kernel) (by decide) ?_
          obtain rfl := Option.some.inj h
          refine v_wide (ce2 := 0) (sl2 := 0) (by decide) (by decide) ?_
          exact v_zret (pc := 88) rfl (Or.inl rfl) (show decode (tC tMd_isThere) 88 = .ok (.ireturn, 1) by decide +kernel)
        · replace h := ite_f c h
          refine v_iconst (pc := 83) (v := 1) (show decode (tC tMd_isThere) 83 = .ok (.iconst 1, 1) by decide +kernel) (by decide) ?_
          refine v_goto (pc := 84) 88 (show decode (tC tMd_isThere) 84 = .ok (.goto 4, 3) by decide +kernel) (by decide) ?_
          obtain rfl := Option.some.inj h
          refine v_wide (ce2 := 0) (sl2 := 0) (by decide) (by decide) ?_
          exact v_zret (pc := 88) rfl (Or.inr rfl) (show decode (tC tMd_isThere) 88 = .ok (.ireturn, 1) by decide +kernel)
    · replace h := ite_f c1 h
      by_cases c2 : x1 = 2
      · replace h := ite_t c2 h
        refine v_tblIn (pc := 1) (off := 60) 61 (show decode (tC tMd_isThere) 1 = .ok (.tableswitch 181 0 8 #[51, 60, 60, 88, 181, 113, 181, 119, 144], 51) by decide +kernel) (by rw [c2]; decide) (by rw [c2]; decide) (by rw [c2]; decide) (by decide) ?_
        refine v_iload_n (pc := 61) (show decode (tC tMd_isThere) 61 = .ok (.iload_n 2, 1) by decide +kernel) 2 rfl rfl ?_
        refine v_aload_n (pc := 62) (show decode (tC tMd_isThere) 62 = .ok (.aload_n 0, 1) by decide +kernel) 0 rfl rfl ?_
        obtain ⟨v17, e18, h⟩ := ob h
        refine v_getI (pc := 63) oF_Md_186 (by decide) e18 (show decode (tC tMd_isThere) 63 = .ok (.getfield 186, 3) by decide +kernel) ?_
        obtain ⟨r20, S21, e19, h⟩ := ob2 h
        refine v_call (pc := 66) (v := (some (.int r20))) (y := yMd_in) (θ' := tMd_in) (rm := rMd_in) (av := [.int x2, .int v17]) (st := []) (cMd_in (l := gl Γ) hl e19) kMd_in iMd_in (iv_static (y := yMd_in) (θ' := tMd_in) (n := 2) (As := [.int x2, .int v17]) kMd_in (gT_in 1437 (by decide +kernel) rfl) sMd_in iMd_in mMd_in rfl (show decode (tC tMd_isThere) 66 = .ok (.invokestatic 241, 3) by decide +kernel)) ⟨by rw [hR]; decide, by rw [hR]; decide, by rw [hR]; decide, by rw [hR]; decide⟩ (Nat.le_of_ble_eq_true rfl) ?_
        refine v_if_eq (pc := 69) 87 (show decode (tC tMd_isThere) 69 = .ok (.ifCond .eq 18, 3) by decide +kernel) (by decide) (fun c => ?_) (fun c => ?_)
        · replace h := ite_t c h
          refine v_iconst (pc := 87) (v := 0) (show decode (tC tMd_isThere) 87 = .ok (.iconst 0, 1) by decide +kernel) (by decide) ?_
          obtain rfl := Option.some.inj h
          refine v_wide (ce2 := 0) (sl2 := 0) (by decide) (by decide) ?_
          exact v_zret (pc := 88) rfl (Or.inl rfl) (show decode (tC tMd_isThere) 88 = .ok (.ireturn, 1) by decide +kernel)
        · replace h := ite_f c h
          refine v_iload_n (pc := 72) (show decode (tC tMd_isThere) 72 = .ok (.iload_n 3, 1) by decide +kernel) 3 rfl rfl ?_
          refine v_aload_n (pc := 73) (show decode (tC tMd_isThere) 73 = .ok (.aload_n 0, 1) by decide +kernel) 0 rfl rfl ?_
          obtain ⟨v22, e23, h⟩ := ob h
          refine v_getI (pc := 74) oF_Md_186 (by decide) e23 (show decode (tC tMd_isThere) 74 = .ok (.getfield 186, 3) by decide +kernel) ?_
          obtain ⟨r25, S26, e24, h⟩ := ob2 h
          refine v_call (pc := 77) (v := (some (.int r25))) (y := yMd_in) (θ' := tMd_in) (rm := rMd_in) (av := [.int x3, .int v22]) (st := []) (cMd_in (l := gl Γ) hl e24) kMd_in iMd_in (iv_static (y := yMd_in) (θ' := tMd_in) (n := 2) (As := [.int x3, .int v22]) kMd_in (gT_in 1437 (by decide +kernel) rfl) sMd_in iMd_in mMd_in rfl (show decode (tC tMd_isThere) 77 = .ok (.invokestatic 241, 3) by decide +kernel)) ⟨by rw [hR]; decide, by rw [hR]; decide, by rw [hR]; decide, by rw [hR]; decide⟩ (Nat.le_of_ble_eq_true rfl) ?_
          refine v_if_eq (pc := 80) 87 (show decode (tC tMd_isThere) 80 = .ok (.ifCond .eq 7, 3) by decide +kernel) (by decide) (fun c => ?_) (fun c => ?_)
          · replace h := ite_t c h
            refine v_iconst (pc := 87) (v := 0) (show decode (tC tMd_isThere) 87 = .ok (.iconst 0, 1) by decide +kernel) (by decide) ?_
            obtain rfl := Option.some.inj h
            refine v_wide (ce2 := 0) (sl2 := 0) (by decide) (by decide) ?_
            exact v_zret (pc := 88) rfl (Or.inl rfl) (show decode (tC tMd_isThere) 88 = .ok (.ireturn, 1) by decide +kernel)
          · replace h := ite_f c h
            refine v_iconst (pc := 83) (v := 1) (show decode (tC tMd_isThere) 83 = .ok (.iconst 1, 1) by decide +kernel) (by decide) ?_
            refine v_goto (pc := 84) 88 (show decode (tC tMd_isThere) 84 = .ok (.goto 4, 3) by decide +kernel) (by decide) ?_
            obtain rfl := Option.some.inj h
            refine v_wide (ce2 := 0) (sl2 := 0) (by decide) (by decide) ?_
            exact v_zret (pc := 88) rfl (Or.inr rfl) (show decode (tC tMd_isThere) 88 = .ok (.ireturn, 1) by decide +kernel)
      · replace h := ite_f c2 h
        by_cases c3 : x1 = 3
        · replace h := ite_t c3 h
          refine v_tblIn (pc := 1) (off := 88) 89 (show decode (tC tMd_isThere) 1 = .ok (.tableswitch 181 0 8 #[51, 60, 60, 88, 181, 113, 181, 119, 144], 51) by decide +kernel) (by rw [c3]; decide) (by rw [c3]; decide) (by rw [c3]; decide) (by decide) ?_
          refine v_iload_n (pc := 89) (show decode (tC tMd_isThere) 89 = .ok (.iload_n 2, 1) by decide +kernel) 2 rfl rfl ?_
          refine v_aload_n (pc := 90) (show decode (tC tMd_isThere) 90 = .ok (.aload_n 0, 1) by decide +kernel) 0 rfl rfl ?_
          obtain ⟨v27, e28, h⟩ := ob h
          refine v_getI (pc := 91) oF_Md_186 (by decide) e28 (show decode (tC tMd_isThere) 91 = .ok (.getfield 186, 3) by decide +kernel) ?_
          obtain ⟨r30, S31, e29, h⟩ := ob2 h
          refine v_call (pc := 94) (v := (some (.int r30))) (y := yMd_in) (θ' := tMd_in) (rm := rMd_in) (av := [.int x2, .int v27]) (st := []) (cMd_in (l := gl Γ) hl e29) kMd_in iMd_in (iv_static (y := yMd_in) (θ' := tMd_in) (n := 2) (As := [.int x2, .int v27]) kMd_in (gT_in 1437 (by decide +kernel) rfl) sMd_in iMd_in mMd_in rfl (show decode (tC tMd_isThere) 94 = .ok (.invokestatic 241, 3) by decide +kernel)) ⟨by rw [hR]; decide, by rw [hR]; decide, by rw [hR]; decide, by rw [hR]; decide⟩ (Nat.le_of_ble_eq_true rfl) ?_
          refine v_if_eq (pc := 97) 112 (show decode (tC tMd_isThere) 97 = .ok (.ifCond .eq 15, 3) by decide +kernel) (by decide) (fun c => ?_) (fun c => ?_)
          · replace h := ite_t c h
            refine v_iconst (pc := 112) (v := 0) (show decode (tC tMd_isThere) 112 = .ok (.iconst 0, 1) by decide +kernel) (by decide) ?_
            obtain rfl := Option.some.inj h
            refine v_wide (ce2 := 0) (sl2 := 0) (by decide) (by decide) ?_
            exact v_zret (pc := 113) rfl (Or.inl rfl) (show decode (tC tMd_isThere) 113 = .ok (.ireturn, 1) by decide +kernel)
          · replace h := ite_f c h
            refine v_iload_n (pc := 100) (show decode (tC tMd_isThere) 100 = .ok (.iload_n 3, 1) by decide +kernel) 3 rfl rfl ?_
            refine v_iconst (pc := 101) (v := 2) (show decode (tC tMd_isThere) 101 = .ok (.iconst 2, 1) by decide +kernel) (by decide) ?_
            obtain ⟨r33, S34, e32, h⟩ := ob2 h
            refine v_call (pc := 102) (v := (some (.int r33))) (y := yMd_in) (θ' := tMd_in) (rm := rMd_in) (av := [.int x3, .int 2]) (st := []) (cMd_in (l := gl Γ) hl e32) kMd_in iMd_in (iv_static (y := yMd_in) (θ' := tMd_in) (n := 2) (As := [.int x3, .int 2]) kMd_in (gT_in 1437 (by decide +kernel) rfl) sMd_in iMd_in mMd_in rfl (show decode (tC tMd_isThere) 102 = .ok (.invokestatic 241, 3) by decide +kernel)) ⟨by rw [hR]; decide, by rw [hR]; decide, by rw [hR]; decide, by rw [hR]; decide⟩ (Nat.le_of_ble_eq_true rfl) ?_
            refine v_if_eq (pc := 105) 112 (show decode (tC tMd_isThere) 105 = .ok (.ifCond .eq 7, 3) by decide +kernel) (by decide) (fun c => ?_) (fun c => ?_)
            · replace h := ite_t c h
              refine v_iconst (pc := 112) (v := 0) (show decode (tC tMd_isThere) 112 = .ok (.iconst 0, 1) by decide +kernel) (by decide) ?_
              obtain rfl := Option.some.inj h
              refine v_wide (ce2 := 0) (sl2 := 0) (by decide) (by decide) ?_
              exact v_zret (pc := 113) rfl (Or.inl rfl) (show decode (tC tMd_isThere) 113 = .ok (.ireturn, 1) by decide +kernel)
            · replace h := ite_f c h
              refine v_iconst (pc := 108) (v := 1) (show decode (tC tMd_isThere) 108 = .ok (.iconst 1, 1) by decide +kernel) (by decide) ?_
              refine v_goto (pc := 109) 113 (show decode (tC tMd_isThere) 109 = .ok (.goto 4, 3) by decide +kernel) (by decide) ?_
              obtain rfl := Option.some.inj h
              refine v_wide (ce2 := 0) (sl2 := 0) (by decide) (by decide) ?_
              exact v_zret (pc := 113) rfl (Or.inr rfl) (show decode (tC tMd_isThere) 113 = .ok (.ireturn, 1) by decide +kernel)
        · replace h := ite_f c3 h
          by_cases c4 : x1 = 4
          · replace h := ite_t c4 h
            refine v_tblIn (pc := 1) (off := 181) 182 (show decode (tC tMd_isThere) 1 = .ok (.tableswitch 181 0 8 #[51, 60, 60, 88, 181, 113, 181, 119, 144], 51) by decide +kernel) (by rw [c4]; decide) (by rw [c4]; decide) (by rw [c4]; decide) (by decide) ?_
            refine v_iconst (pc := 182) (v := 1) (show decode (tC tMd_isThere) 182 = .ok (.iconst 1, 1) by decide +kernel) (by decide) ?_
            obtain rfl := Option.some.inj h
            refine v_wide (ce2 := 0) (sl2 := 0) (by decide) (by decide) ?_
            exact v_zret (pc := 183) rfl (Or.inr rfl) (show decode (tC tMd_isThere) 183 = .ok (.ireturn, 1) by decide +kernel)
          · replace h := ite_f c4 h
            by_cases c5 : x1 = 5
            · replace h := ite_t c5 h
              refine v_tblIn (pc := 1) (off := 113) 114 (show decode (tC tMd_isThere) 1 = .ok (.tableswitch 181 0 8 #[51, 60, 60, 88, 181, 113, 181, 119, 144], 51) by decide +kernel) (by rw [c5]; decide) (by rw [c5]; decide) (by rw [c5]; decide) (by decide) ?_
              refine v_iload_n (pc := 114) (show decode (tC tMd_isThere) 114 = .ok (.iload_n 3, 1) by decide +kernel) 3 rfl rfl ?_
              refine v_iconst (pc := 115) (v := 2) (show decode (tC tMd_isThere) 115 = .ok (.iconst 2, 1) by decide +kernel) (by decide) ?_
              obtain ⟨r36, S37, e35, h⟩ := ob2 h
              refine v_call (pc := 116) (v := (some (.int r36))) (y := yMd_in) (θ' := tMd_in) (rm := rMd_in) (av := [.int x3, .int 2]) (st := []) (cMd_in (l := gl Γ) hl e35) kMd_in iMd_in (iv_static (y := yMd_in) (θ' := tMd_in) (n := 2) (As := [.int x3, .int 2]) kMd_in (gT_in 1437 (by decide +kernel) rfl) sMd_in iMd_in mMd_in rfl (show decode (tC tMd_isThere) 116 = .ok (.invokestatic 241, 3) by decide +kernel)) ⟨by rw [hR]; decide, by rw [hR]; decide, by rw [hR]; decide, by rw [hR]; decide⟩ (Nat.le_of_ble_eq_true rfl) ?_
              obtain ⟨e38, h⟩ := zb_of h
              obtain rfl := Option.some.inj h
              refine v_wide (ce2 := 0) (sl2 := 0) (by decide) (by decide) ?_
              exact v_zret (pc := 119) rfl e38 (show decode (tC tMd_isThere) 119 = .ok (.ireturn, 1) by decide +kernel)
            · replace h := ite_f c5 h
              by_cases c6 : x1 = 6
              · replace h := ite_t c6 h
                refine v_tblIn (pc := 1) (off := 181) 182 (show decode (tC tMd_isThere) 1 = .ok (.tableswitch 181 0 8 #[51, 60, 60, 88, 181, 113, 181, 119, 144], 51) by decide +kernel) (by rw [c6]; decide) (by rw [c6]; decide) (by rw [c6]; decide) (by decide) ?_
                refine v_iconst (pc := 182) (v := 1) (show decode (tC tMd_isThere) 182 = .ok (.iconst 1, 1) by decide +kernel) (by decide) ?_
                obtain rfl := Option.some.inj h
                refine v_wide (ce2 := 0) (sl2 := 0) (by decide) (by decide) ?_
                exact v_zret (pc := 183) rfl (Or.inr rfl) (show decode (tC tMd_isThere) 183 = .ok (.ireturn, 1) by decide +kernel)
              · replace h := ite_f c6 h
                by_cases c7 : x1 = 7
                · replace h := ite_t c7 h
                  refine v_tblIn (pc := 1) (off := 119) 120 (show decode (tC tMd_isThere) 1 = .ok (.tableswitch 181 0 8 #[51, 60, 60, 88, 181, 113, 181, 119, 144], 51) by decide +kernel) (by rw [c7]; decide) (by rw [c7]; decide) (by rw [c7]; decide) (by decide) ?_
                  refine v_iload_n (pc := 120) (show decode (tC tMd_isThere) 120 = .ok (.iload_n 2, 1) by decide +kernel) 2 rfl rfl ?_
                  refine v_iconst (pc := 121) (v := 4) (show decode (tC tMd_isThere) 121 = .ok (.iconst 4, 1) by decide +kernel) (by decide) ?_
                  obtain ⟨r40, S41, e39, h⟩ := ob2 h
                  refine v_call (pc := 122) (v := (some (.int r40))) (y := yMd_in) (θ' := tMd_in) (rm := rMd_in) (av := [.int x2, .int 4]) (st := []) (cMd_in (l := gl Γ) hl e39) kMd_in iMd_in (iv_static (y := yMd_in) (θ' := tMd_in) (n := 2) (As := [.int x2, .int 4]) kMd_in (gT_in 1437 (by decide +kernel) rfl) sMd_in iMd_in mMd_in rfl (show decode (tC tMd_isThere) 122 = .ok (.invokestatic 241, 3) by decide +kernel)) ⟨by rw [hR]; decide, by rw [hR]; decide, by rw [hR]; decide, by rw [hR]; decide⟩ (Nat.le_of_ble_eq_true rfl) ?_
                  refine v_if_eq (pc := 125) 143 (show decode (tC tMd_isThere) 125 = .ok (.ifCond .eq 18, 3) by decide +kernel) (by decide) (fun c => ?_) (fun c => ?_)
                  · replace h := ite_t c h
                    refine v_iconst (pc := 143) (v := 0) (show decode (tC tMd_isThere) 143 = .ok (.iconst 0, 1) by decide +kernel) (by decide) ?_
                    obtain rfl := Option.some.inj h
                    refine v_wide (ce2 := 0) (sl2 := 0) (by decide) (by decide) ?_
                    exact v_zret (pc := 144) rfl (Or.inl rfl) (show decode (tC tMd_isThere) 144 = .ok (.ireturn, 1) by decide +kernel)
                  · replace h := ite_f c h
                    refine v_iload_n (pc := 128) (show decode (tC tMd_isThere) 128 = .ok (.iload_n 3, 1) by decide +kernel) 3 rfl rfl ?_
                    refine v_aload_n (pc := 129) (show decode (tC tMd_isThere) 129 = .ok (.aload_n 0, 1) by decide +kernel) 0 rfl rfl ?_
                    obtain ⟨v42, e43, h⟩ := ob h
                    refine v_getI (pc := 130) oF_Md_186 (by decide) e43 (show decode (tC tMd_isThere) 130 = .ok (.getfield 186, 3) by decide +kernel) ?_
                    obtain ⟨r45, S46, e44, h⟩ := ob2 h
                    refine v_call (pc := 133) (v := (some (.int r45))) (y := yMd_in) (θ' := tMd_in) (rm := rMd_in) (av := [.int x3, .int v42]) (st := []) (cMd_in (l := gl Γ) hl e44) kMd_in iMd_in (iv_static (y := yMd_in) (θ' := tMd_in) (n := 2) (As := [.int x3, .int v42]) kMd_in (gT_in 1437 (by decide +kernel) rfl) sMd_in iMd_in mMd_in rfl (show decode (tC tMd_isThere) 133 = .ok (.invokestatic 241, 3) by decide +kernel)) ⟨by rw [hR]; decide, by rw [hR]; decide, by rw [hR]; decide, by rw [hR]; decide⟩ (Nat.le_of_ble_eq_true rfl) ?_
                    refine v_if_eq (pc := 136) 143 (show decode (tC tMd_isThere) 136 = .ok (.ifCond .eq 7, 3) by decide +kernel) (by decide) (fun c => ?_) (fun c => ?_)
                    · replace h := ite_t c h
                      refine v_iconst (pc := 143) (v := 0) (show decode (tC tMd_isThere) 143 = .ok (.iconst 0, 1) by decide +kernel) (by decide) ?_
                      obtain rfl := Option.some.inj h
                      refine v_wide (ce2 := 0) (sl2 := 0) (by decide) (by decide) ?_
                      exact v_zret (pc := 144) rfl (Or.inl rfl) (show decode (tC tMd_isThere) 144 = .ok (.ireturn, 1) by decide +kernel)
                    · replace h := ite_f c h
                      refine v_iconst (pc := 139) (v := 1) (show decode (tC tMd_isThere) 139 = .ok (.iconst 1, 1) by decide +kernel) (by decide) ?_
                      refine v_goto (pc := 140) 144 (show decode (tC tMd_isThere) 140 = .ok (.goto 4, 3) by decide +kernel) (by decide) ?_
                      obtain rfl := Option.some.inj h
                      refine v_wide (ce2 := 0) (sl2 := 0) (by decide) (by decide) ?_
                      exact v_zret (pc := 144) rfl (Or.inr rfl) (show decode (tC tMd_isThere) 144 = .ok (.ireturn, 1) by decide +kernel)
                · replace h := ite_f c7 h
                  by_cases c8 : x1 = 8
                  · replace h := ite_t c8 h
                    refine v_tblIn (pc := 1) (off := 144) 145 (show decode (tC tMd_isThere) 1 = .ok (.tableswitch 181 0 8 #[51, 60, 60, 88, 181, 113, 181, 119, 144], 51) by decide +kernel) (by rw [c8]; decide) (by rw [c8]; decide) (by rw [c8]; decide) (by decide) ?_
                    refine v_iload_n (pc := 145) (show decode (tC tMd_isThere) 145 = .ok (.iload_n 2, 1) by decide +kernel) 2 rfl rfl ?_
                    refine v_aload_n (pc := 146) (show decode (tC tMd_isThere) 146 = .ok (.aload_n 0, 1) by decide +kernel) 0 rfl rfl ?_
                    obtain ⟨v47, e48, h⟩ := ob h
                    refine v_getI (pc := 147) oF_Md_186 (by decide) e48 (show decode (tC tMd_isThere) 147 = .ok (.getfield 186, 3) by decide +kernel) ?_
                    obtain ⟨r50, S51, e49, h⟩ := ob2 h
                    refine v_call (pc := 150) (v := (some (.int r50))) (y := yMd_in) (θ' := tMd_in) (rm := rMd_in) (av := [.int x2, .int v47]) (st := []) (cMd_in (l := gl Γ) hl e49) kMd_in iMd_in (iv_static (y := yMd_in) (θ' := tMd_in) (n := 2) (As := [.int x2, .int v47]) kMd_in (gT_in 1437 (by decide +kernel) rfl) sMd_in iMd_in mMd_in rfl (show decode (tC tMd_isThere) 150 = .ok (.invokestatic 241, 3) by decide +kernel)) ⟨by rw [hR]; decide, by rw [hR]; decide, by rw [hR]; decide, by rw [hR]; decide⟩ (Nat.le_of_ble_eq_true rfl) ?_
                    refine v_if_eq (pc := 153) 180 (show decode (tC tMd_isThere) 153 = .ok (.ifCond .eq 27, 3) by decide +kernel) (by decide) (fun c => ?_) (fun c => ?_)
                    · replace h := ite_t c h
                      refine v_iconst (pc := 180) (v := 0) (show decode (tC tMd_isThere) 180 = .ok (.iconst 0, 1) by decide +kernel) (by decide) ?_
                      obtain rfl := Option.some.inj h
                      refine v_wide (ce2 := 0) (sl2 := 0) (by decide) (by decide) ?_
                      exact v_zret (pc := 181) rfl (Or.inl rfl) (show decode (tC tMd_isThere) 181 = .ok (.ireturn, 1) by decide +kernel)
                    · replace h := ite_f c h
                      refine v_iload_n (pc := 156) (show decode (tC tMd_isThere) 156 = .ok (.iload_n 3, 1) by decide +kernel) 3 rfl rfl ?_
                      refine v_aload_n (pc := 157) (show decode (tC tMd_isThere) 157 = .ok (.aload_n 0, 1) by decide +kernel) 0 rfl rfl ?_
                      obtain ⟨v52, e53, h⟩ := ob h
                      refine v_getI (pc := 158) oF_Md_186 (by decide) e53 (show decode (tC tMd_isThere) 158 = .ok (.getfield 186, 3) by decide +kernel) ?_
                      obtain ⟨r55, S56, e54, h⟩ := ob2 h
                      refine v_call (pc := 161) (v := (some (.int r55))) (y := yMd_in) (θ' := tMd_in) (rm := rMd_in) (av := [.int x3, .int v52]) (st := []) (cMd_in (l := gl Γ) hl e54) kMd_in iMd_in (iv_static (y := yMd_in) (θ' := tMd_in) (n := 2) (As := [.int x3, .int v52]) kMd_in (gT_in 1437 (by decide +kernel) rfl) sMd_in iMd_in mMd_in rfl (show decode (tC tMd_isThere) 161 = .ok (.invokestatic 241, 3) by decide +kernel)) ⟨by rw [hR]; decide, by rw [hR]; decide, by rw [hR]; decide, by rw [hR]; decide⟩ (Nat.le_of_ble_eq_true rfl) ?_
                      refine v_if_eq (pc := 164) 180 (show decode (tC tMd_isThere) 164 = .ok (.ifCond .eq 16, 3) by decide +kernel) (by decide) (fun c => ?_) (fun c => ?_)
                      · replace h := ite_t c h
                        refine v_iconst (pc := 180) (v := 0) (show decode (tC tMd_isThere) 180 = .ok (.iconst 0, 1) by decide +kernel) (by decide) ?_
                        obtain rfl := Option.some.inj h
                        refine v_wide (ce2 := 0) (sl2 := 0) (by decide) (by decide) ?_
                        exact v_zret (pc := 181) rfl (Or.inl rfl) (show decode (tC tMd_isThere) 181 = .ok (.ireturn, 1) by decide +kernel)
                      · replace h := ite_f c h
                        refine v_iload (pc := 167) (show decode (tC tMd_isThere) 167 = .ok (.iload 4, 2) by decide +kernel) 4 rfl ?_
                        refine v_iconst (pc := 169) (v := 4) (show decode (tC tMd_isThere) 169 = .ok (.iconst 4, 1) by decide +kernel) (by decide) ?_
                        obtain ⟨r58, S59, e57, h⟩ := ob2 h
                        refine v_call (pc := 170) (v := (some (.int r58))) (y := yMd_in) (θ' := tMd_in) (rm := rMd_in) (av := [.int x4, .int 4]) (st := []) (cMd_in (l := gl Γ) hl e57) kMd_in iMd_in (iv_static (y := yMd_in) (θ' := tMd_in) (n := 2) (As := [.int x4, .int 4]) kMd_in (gT_in 1437 (by decide +kernel) rfl) sMd_in iMd_in mMd_in rfl (show decode (tC tMd_isThere) 170 = .ok (.invokestatic 241, 3) by decide +kernel)) ⟨by rw [hR]; decide, by rw [hR]; decide, by rw [hR]; decide, by rw [hR]; decide⟩ (Nat.le_of_ble_eq_true rfl) ?_
                        refine v_if_eq (pc := 173) 180 (show decode (tC tMd_isThere) 173 = .ok (.ifCond .eq 7, 3) by decide +kernel) (by decide) (fun c => ?_) (fun c => ?_)
                        · replace h := ite_t c h
                          refine v_iconst (pc := 180) (v := 0) (show decode (tC tMd_isThere) 180 = .ok (.iconst 0, 1) by decide +kernel) (by decide) ?_
                          obtain rfl := Option.some.inj h
                          refine v_wide (ce2 := 0) (sl2 := 0) (by decide) (by decide) ?_
                          exact v_zret (pc := 181) rfl (Or.inl rfl) (show decode (tC tMd_isThere) 181 = .ok (.ireturn, 1) by decide +kernel)
                        · replace h := ite_f c h
                          refine v_iconst (pc := 176) (v := 1) (show decode (tC tMd_isThere) 176 = .ok (.iconst 1, 1) by decide +kernel) (by decide) ?_
                          refine v_goto (pc := 177) 181 (show decode (tC tMd_isThere) 177 = .ok (.goto 4, 3) by decide +kernel) (by decide) ?_
                          obtain rfl := Option.some.inj h
                          refine v_wide (ce2 := 0) (sl2 := 0) (by decide) (by decide) ?_
                          exact v_zret (pc := 181) rfl (Or.inr rfl) (show decode (tC tMd_isThere) 181 = .ok (.ireturn, 1) by decide +kernel)
                  · replace h := ite_f c8 h
                    refine v_tblOut (pc := 1) 182 (show decode (tC tMd_isThere) 1 = .ok (.tableswitch 181 0 8 #[51, 60, 60, 88, 181, 113, 181, 119, 144], 51) by decide +kernel) (tbl_out 9 (fun i hi => match i, hi with | 0, _ => by have := toInt_ne c0; exact this | 1, _ => by have := toInt_ne c1; exact this | 2, _ => by have := toInt_ne c2; exact this | 3, _ => by have := toInt_ne c3; exact this | 4, _ => by have := toInt_ne c4; exact this | 5, _ => by have := toInt_ne c5; exact this | 6, _ => by have := toInt_ne c6; exact this | 7, _ => by have := toInt_ne c7; exact this | 8, _ => by have := toInt_ne c8; exact this | i + 9, hi => absurd hi (by omega)) (by decide)) (by decide) ?_
                    refine v_iconst (pc := 182) (v := 1) (show decode (tC tMd_isThere) 182 = .ok (.iconst 1, 1) by decide +kernel) (by decide) ?_
                    obtain rfl := Option.some.inj h
                    refine v_wide (ce2 := 0) (sl2 := 0) (by decide) (by decide) ?_
                    exact v_zret (pc := 183) rfl (Or.inr rfl) (show decode (tC tMd_isThere) 183 = .ok (.ireturn, 1) by decide +kernel)
theorem cMd_isThere {l : Launch} (hl : l.flags = pinnedFlags ++ [noTraceFlag]) {D : va_G} {dA : Nat → ClassId} {B : Nat} {x0 : Nat} {x1 : Int32} {x2 : Int32} {x3 : Int32} {x4 : Int32} {S : Sx} {X : Int32 × Sx} (h : fMd_isThere x0 x1 x2 x3 x4 S = some X) : Mx l yMd_isThere tMd_isThere rMd_isThere 0 0 D dA B S [.ref x0, .int x1, .int x2, .int x3, .int x4] 0 (some (.int X.1)) X.2 :=
  mx_of hl (by decide) rfl rfl (Nat.le_of_ble_eq_true rfl) (fun Γ e1 e2 e3 e4 e5 => by subst e1; subst e3; subst e4; subst e5; exact wMd_isThere e2 hl x0 x1 x2 x3 x4 S h)
/-! MatchPipeModel.doing(IIIII)V -/
def yMd_doing : MethodName := ⟨"MatchPipeModel", "doing", "(IIIII)V"⟩
def tMd_doing : tM := (prog_14_method_11_code, "MatchPipeModel", 7, "doing", none, [])
def rMd_doing : Room := { frames := 2, cells := 0, slots := 0, locals := 45 }
theorem kMd_doing : cOf yMd_doing tMd_doing ∈ gT := gT_in 1455 (by decide +kernel) rfl
theorem iMd_doing : Cond.initialized yMd_doing.cls ∈ gT := gT_in 68 (by decide +kernel) rfl
theorem mMd_doing : okM yMd_doing 5 := ⟨by decide, by decide, by unfold nPar; decide +kernel⟩
theorem nMd_doing : Cond.instanceMethod yMd_doing ∈ gT := gT_in 1453 (by decide +kernel) rfl
theorem lMd_doing : Cond.selects "MatchPipeModel" yMd_doing yMd_doing ∈ gT := gT_in 1454 (by decide +kernel) rfl
def fMd_doing_64  (x0 : Nat) (x1 : Int32) (x2 : Int32) (x3 : Int32) (x4 : Int32) (x5 : Int32) (z0 : Int32) (z1 : Nat) (S : Sx) : Option (Sx) :=
    (pI S 12 0 z1 z0).bind fun S1 =>
    (gI S1 12 0 x0).bind fun v3 =>
    if v3 ≤ 0 then
    ((gX S1 12 16 x0).bind fun v5 =>
    (aI S1 v5 x1).bind fun v7 =>
    (gX S1 12 17 x0).bind fun v9 =>
    (qI S1 v9 ((4 * x1) + v7) x2).bind fun S11 =>
    (gX S11 12 18 x0).bind fun v13 =>
    (qI S11 v13 ((4 * x1) + v7) x3).bind fun S15 =>
    (gX S15 12 19 x0).bind fun v17 =>
    (qI S15 v17 ((4 * x1) + v7) x4).bind fun S19 =>
    (gX S19 12 20 x0).bind fun v21 =>
    (qI S19 v21 ((4 * x1) + v7) x5).bind fun S23 =>
    (gX S23 12 16 x0).bind fun v25 =>
    (aI S23 v25 x1).bind fun v27 =>
    (qI S23 v25 x1 (v27 + 1)).bind fun S29 =>
    some S29)
    else
    (some S1)
set_option maxRecDepth 100000 in
set_option maxHeartbeats 4000000 in
theorem wMd_doing_64 {Γ : vG} (hR : gR Γ = rMd_doing) (hl : (gl Γ).flags = pinnedFlags ++ [noTraceFlag]) {X : Sx}  : ∀ (x0 : Nat) (x1 : Int32) (x2 : Int32) (x3 : Int32) (x4 : Int32) (x5 : Int32) (z0 : Int32) (z1 : Nat) (S : Sx), fMd_doing_64  x0 x1 x2 x3 x4 x5 z0 z1 S = some X → vV Γ tMd_doing (mQ Γ 0 0 0 none X) S 0 0 64 [(0, .ref x0), (1, .int x1), (2, .int x2), (3, .int x3), (4, .int x4), (5, .int x5)] [.int z0, .ref z1] := by
  intro x0 x1 x2 x3 x4 x5 z0 z1 S h
  unfold fMd_doing_64 at h
  obtain ⟨S1, e2, h⟩ := ob h
  refine v_putI (pc := 64) oF_Md_183 (fin_ok (kd := 12) (k := 0) (by decide +kernel)) e2 (show decode (tC tMd_doing) 64 = .ok (.putfield 183, 3) by decide +kernel) ?_
  refine v_aload_n (pc := 67) (show decode (tC tMd_doing) 67 = .ok (.aload_n 0, 1) by decide +kernel) 0 rfl rfl ?_
  obtain ⟨v3, e4, h⟩ := ob h
  refine v_getI (pc := 68) oF_Md_183 (by decide) e4 (show decode (tC tMd_doing) 68 = .ok (.getfield 183, 3) by decide +kernel) ?_
  refine v_if_le (pc := 71) 75 (show decode (tC tMd_doing) 71 = .ok (.ifCond .le 4, 3) by decide +kernel) (by decide) (fun c => ?_) (fun c => ?_)
  · replace h := ite_t c h
    refine v_iconst (pc := 75) (v := 4) (show decode (tC tMd_doing) 75 = .ok (.iconst 4, 1) by decide +kernel) (by decide) ?_
    refine v_iload_n (pc := 76) (show decode (tC tMd_doing) 76 = .ok (.iload_n 1, 1) by decide +kernel) 1 rfl rfl ?_
    refine v_imul (pc := 77) (show decode (tC tMd_doing) 77 = .ok (.imul, 1) by decide +kernel) ?_
    refine v_aload_n (pc := 78) (show decode (tC tMd_doing) 78 = .ok (.aload_n 0, 1) by decide +kernel) 0 rfl rfl ?_
    obtain ⟨v5, e6, h⟩ := ob h
    refine v_getX (pc := 79) oF_Md_34 e6 (show decode (tC tMd_doing) 79 = .ok (.getfield 34, 3) by decide +kernel) ?_
    refine v_iload_n (pc := 82) (show decode (tC tMd_doing) 82 = .ok (.iload_n 1, 1) by decide +kernel) 1 rfl rfl ?_
    obtain ⟨v7, e8, h⟩ := ob h
    refine v_iald (pc := 83) e8 (show decode (tC tMd_doing) 83 = .ok (.iaload, 1) by decide +kernel) ?_
    refine v_iadd (pc := 84) (show decode (tC tMd_doing) 84 = .ok (.iadd, 1) by decide +kernel) ?_
    refine v_istore (pc := 85) [(6, .int ((4 * x1) + v7)), (0, .ref x0), (1, .int x1), (2, .int x2), (3, .int x3), (4, .int x4), (5, .int x5)] (show decode (tC tMd_doing) 85 = .ok (.istore 6, 2) by decide +kernel) (by decide) rfl ?_
    refine v_aload_n (pc := 87) (show decode (tC tMd_doing) 87 = .ok (.aload_n 0, 1) by decide +kernel) 1 rfl rfl ?_
    obtain ⟨v9, e10, h⟩ := ob h
    refine v_getX (pc := 88) oF_Md_37 e10 (show decode (tC tMd_doing) 88 = .ok (.getfield 37, 3) by decide +kernel) ?_
    refine v_iload (pc := 91) (show decode (tC tMd_doing) 91 = .ok (.iload 6, 2) by decide +kernel) 0 rfl ?_
    refine v_iload_n (pc := 93) (show decode (tC tMd_doing) 93 = .ok (.iload_n 2, 1) by decide +kernel) 3 rfl rfl ?_
    obtain ⟨S11, e12, h⟩ := ob h
    refine v_iast (pc := 94) e12 (show decode (tC tMd_doing) 94 = .ok (.iastore, 1) by decide +kernel) ?_
    refine v_aload_n (pc := 95) (show decode (tC tMd_doing) 95 = .ok (.aload_n 0, 1) by decide +kernel) 1 rfl rfl ?_
    obtain ⟨v13, e14, h⟩ := ob h
    refine v_getX (pc := 96) oF_Md_40 e14 (show decode (tC tMd_doing) 96 = .ok (.getfield 40, 3) by decide +kernel) ?_
    refine v_iload (pc := 99) (show decode (tC tMd_doing) 99 = .ok (.iload 6, 2) by decide +kernel) 0 rfl ?_
    refine v_iload_n (pc := 101) (show decode (tC tMd_doing) 101 = .ok (.iload_n 3, 1) by decide +kernel) 4 rfl rfl ?_
    obtain ⟨S15, e16, h⟩ := ob h
    refine v_iast (pc := 102) e16 (show decode (tC tMd_doing) 102 = .ok (.iastore, 1) by decide +kernel) ?_
    refine v_aload_n (pc := 103) (show decode (tC tMd_doing) 103 = .ok (.aload_n 0, 1) by decide +kernel) 1 rfl rfl ?_
    obtain ⟨v17, e18, h⟩ := ob h
    refine v_getX (pc := 104) oF_Md_43 e18 (show decode (tC tMd_doing) 104 = .ok (.getfield 43, 3) by decide +kernel) ?_
    refine v_iload (pc := 107) (show decode (tC tMd_doing) 107 = .ok (.iload 6, 2) by decide +kernel) 0 rfl ?_
    refine v_iload (pc := 109) (show decode (tC tMd_doing) 109 = .ok (.iload 4, 2) by decide +kernel) 5 rfl ?_
    obtain ⟨S19, e20, h⟩ := ob h
    refine v_iast (pc := 111) e20 (show decode (tC tMd_doing) 111 = .ok (.iastore, 1) by decide +kernel) ?_
    refine v_aload_n (pc := 112) (show decode (tC tMd_doing) 112 = .ok (.aload_n 0, 1) by decide +kernel) 1 rfl rfl ?_
    obtain ⟨v21, e22, h⟩ := ob h
    refine v_getX (pc := 113) oF_Md_46 e22 (show decode (tC tMd_doing) 113 = .ok (.getfield 46, 3) by decide +kernel) ?_
    refine v_iload (pc := 116) (show decode (tC tMd_doing) 116 = .ok (.iload 6, 2) by decide +kernel) 0 rfl ?_
    refine v_iload (pc := 118) (show decode (tC tMd_doing) 118 = .ok (.iload 5, 2) by decide +kernel) 6 rfl ?_
    obtain ⟨S23, e24, h⟩ := ob h
    refine v_iast (pc := 120) e24 (show decode (tC tMd_doing) 120 = .ok (.iastore, 1) by decide +kernel) ?_
    refine v_aload_n (pc := 121) (show decode (tC tMd_doing) 121 = .ok (.aload_n 0, 1) by decide +kernel) 1 rfl rfl ?_
    obtain ⟨v25, e26, h⟩ := ob h
    refine v_getX (pc := 122) oF_Md_34 e26 (show decode (tC tMd_doing) 122 = .ok (.getfield 34, 3) by decide +kernel) ?_
    refine v_iload_n (pc := 125) (show decode (tC tMd_doing) 125 = .ok (.iload_n 1, 1) by decide +kernel) 2 rfl rfl ?_
    refine v_dup2_11 (pc := 126) (show decode (tC tMd_doing) 126 = .ok (.dup2, 1) by decide +kernel) rfl rfl ?_
    obtain ⟨v27, e28, h⟩ := ob h
    refine v_iald (pc := 127) e28 (show decode (tC tMd_doing) 127 = .ok (.iaload, 1) by decide +kernel) ?_
    refine v_iconst (pc := 128) (v := 1) (show decode (tC tMd_doing) 128 = .ok (.iconst 1, 1) by decide +kernel) (by decide) ?_
    refine v_iadd (pc := 129) (show decode (tC tMd_doing) 129 = .ok (.iadd, 1) by decide +kernel) ?_
    obtain ⟨S29, e30, h⟩ := ob h
    refine v_iast (pc := 130) e30 (show decode (tC tMd_doing) 130 = .ok (.iastore, 1) by decide +kernel) ?_
    obtain rfl := Option.some.inj h
    refine v_wide (ce2 := 0) (sl2 := 0) (by decide) (by decide) ?_
    exact v_vret (pc := 131) rfl (show decode (tC tMd_doing) 131 = .ok (.return_, 1) by decide +kernel)
  · replace h := ite_f c h
    obtain rfl := Option.some.inj h
    refine v_wide (ce2 := 0) (sl2 := 0) (by decide) (by decide) ?_
    exact v_vret (pc := 74) rfl (show decode (tC tMd_doing) 74 = .ok (.return_, 1) by decide +kernel)
def fMd_doing_38  (x0 : Nat) (x1 : Int32) (x2 : Int32) (x3 : Int32) (x4 : Int32) (x5 : Int32) (z0 : Nat) (S : Sx) : Option (Sx) :=
    fMd_doing_64  x0 x1 x2 x3 x4 x5 1 z0 S
set_option maxRecDepth 100000 in
set_option maxHeartbeats 4000000 in
theorem wMd_doing_38 {Γ : vG} (hR : gR Γ = rMd_doing) (hl : (gl Γ).flags = pinnedFlags ++ [noTraceFlag]) {X : Sx}  : ∀ (x0 : Nat) (x1 : Int32) (x2 : Int32) (x3 : Int32) (x4 : Int32) (x5 : Int32) (z0 : Nat) (S : Sx), fMd_doing_38  x0 x1 x2 x3 x4 x5 z0 S = some X → vV Γ tMd_doing (mQ Γ 0 0 0 none X) S 0 0 38 [(0, .ref x0), (1, .int x1), (2, .int x2), (3, .int x3), (4, .int x4), (5, .int x5)] [.ref z0] := by
  intro x0 x1 x2 x3 x4 x5 z0 S h
  unfold fMd_doing_38 at h
  refine v_iconst (pc := 38) (v := 1) (show decode (tC tMd_doing) 38 = .ok (.iconst 1, 1) by decide +kernel) (by decide) ?_
  refine v_goto (pc := 39) 64 (show decode (tC tMd_doing) 39 = .ok (.goto 25, 3) by decide +kernel) (by decide) ?_
  exact wMd_doing_64 hR hl  x0 x1 x2 x3 x4 x5 1 z0 S h
def fMd_doing_59  (x0 : Nat) (x1 : Int32) (x2 : Int32) (x3 : Int32) (x4 : Int32) (x5 : Int32) (z0 : Nat) (S : Sx) : Option (Sx) :=
    fMd_doing_64  x0 x1 x2 x3 x4 x5 3 z0 S
set_option maxRecDepth 100000 in
set_option maxHeartbeats 4000000 in
theorem wMd_doing_59 {Γ : vG} (hR : gR Γ = rMd_doing) (hl : (gl Γ).flags = pinnedFlags ++ [noTraceFlag]) {X : Sx}  : ∀ (x0 : Nat) (x1 : Int32) (x2 : Int32) (x3 : Int32) (x4 : Int32) (x5 : Int32) (z0 : Nat) (S : Sx), fMd_doing_59  x0 x1 x2 x3 x4 x5 z0 S = some X → vV Γ tMd_doing (mQ Γ 0 0 0 none X) S 0 0 59 [(0, .ref x0), (1, .int x1), (2, .int x2), (3, .int x3), (4, .int x4), (5, .int x5)] [.ref z0] := by
  intro x0 x1 x2 x3 x4 x5 z0 S h
  unfold fMd_doing_59 at h
  refine v_iconst (pc := 59) (v := 3) (show decode (tC tMd_doing) 59 = .ok (.iconst 3, 1) by decide +kernel) (by decide) ?_
  refine v_goto (pc := 60) 64 (show decode (tC tMd_doing) 60 = .ok (.goto 4, 3) by decide +kernel) (by decide) ?_
  exact wMd_doing_64 hR hl  x0 x1 x2 x3 x4 x5 3 z0 S h
def fMd_doing (x0 : Nat) (x1 : Int32) (x2 : Int32) (x3 : Int32) (x4 : Int32) (x5 : Int32) (S : Sx) : Option (Sx) :=
    bd2 (fMd_in x2 9 S) fun r2 S3 =>
    if r2 = 0 then
    (fMd_doing_64  x0 x1 x2 x3 x4 x5 2 x0 S3)
    else
    ((gI S3 12 3 x0).bind fun v4 =>
    bd2 (fMd_in x1 v4 S3) fun r7 S8 =>
    if r7 = 0 then
    (fMd_doing_38  x0 x1 x2 x3 x4 x5 x0 S8)
    else
    ((ckd S8 x0 12).bind fun _ =>
    bd2 (fMd_isThere x0 x2 x3 x4 x5 S8) fun r11 S12 =>
    if r11 = 0 then
    (fMd_doing_38  x0 x1 x2 x3 x4 x5 x0 S12)
    else
    ((gX S12 12 16 x0).bind fun v13 =>
    (aI S12 v13 x1).bind fun v15 =>
    if v15 = 4 then
    (fMd_doing_59  x0 x1 x2 x3 x4 x5 x0 S12)
    else
    ((gI S12 12 7 x0).bind fun v17 =>
    if v17 = 0 then
    (fMd_doing_64  x0 x1 x2 x3 x4 x5 0 x0 S12)
    else
    (fMd_doing_59  x0 x1 x2 x3 x4 x5 x0 S12)))))
set_option maxRecDepth 100000 in
set_option maxHeartbeats 4000000 in
theorem wMd_doing {Γ : vG} (hR : gR Γ = rMd_doing) (hl : (gl Γ).flags = pinnedFlags ++ [noTraceFlag]) (x0 : Nat) (x1 : Int32) (x2 : Int32) (x3 : Int32) (x4 : Int32) (x5 : Int32) (S : Sx) {X : Sx} (h : fMd_doing x0 x1 x2 x3 x4 x5 S = some X) : vV Γ tMd_doing (mQ Γ 0 0 0 none X) S 0 0 0 [(0, .ref x0), (1, .int x1), (2, .int x2), (3, .int x3), (4, .int x4), (5, .int x5)] [] := by
  unfold fMd_doing at h
  refine v_aload_n (pc := 0) (show decode (tC tMd_doing) 0 = .ok (.aload_n 0, 1) by decide +kernel) 0 rfl rfl ?_
  refine v_iload_n (pc := 1) (show decode (tC tMd_doing) 1 = .ok (.iload_n 2, 1) by decide +kernel) 2 rfl rfl ?_
  refine v_bipush (pc := 2) (v := 9) (show decode (tC tMd_doing) 2 = .ok (.bipush 9, 2) by decide +kernel) (by decide) ?_
  obtain ⟨r2, S3, e1, h⟩ := ob2 h
  refine v_call (pc := 4) (v := (some (.int r2))) (y := yMd_in) (θ' := tMd_in) (rm := rMd_in) (av := [.int x2, .int 9]) (st := [.ref x0]) (cMd_in (l := gl Γ) hl e1) kMd_in iMd_in (iv_static (y := yMd_in) (θ' := tMd_in) (n := 2) (As := [.int x2, .int 9]) kMd_in (gT_in 1437 (by decide +kernel) rfl) sMd_in iMd_in mMd_in rfl (show decode (tC tMd_doing) 4 = .ok (.invokestatic 241, 3) by decide +kernel)) ⟨by rw [hR]; decide, by rw [hR]; decide, by rw [hR]; decide, by rw [hR]; decide⟩ (Nat.le_of_ble_eq_true rfl) ?_
  refine v_if_ne (pc := 7) 14 (show decode (tC tMd_doing) 7 = .ok (.ifCond .ne 7, 3) by decide +kernel) (by decide) (fun c => ?_) (fun c => ?_)
  · replace h := ite_f c h
    refine v_iload_n (pc := 14) (show decode (tC tMd_doing) 14 = .ok (.iload_n 1, 1) by decide +kernel) 1 rfl rfl ?_
    refine v_aload_n (pc := 15) (show decode (tC tMd_doing) 15 = .ok (.aload_n 0, 1) by decide +kernel) 0 rfl rfl ?_
    obtain ⟨v4, e5, h⟩ := ob h
    refine v_getI (pc := 16) oF_Md_192 (by decide) e5 (show decode (tC tMd_doing) 16 = .ok (.getfield 192, 3) by decide +kernel) ?_
    obtain ⟨r7, S8, e6, h⟩ := ob2 h
    refine v_call (pc := 19) (v := (some (.int r7))) (y := yMd_in) (θ' := tMd_in) (rm := rMd_in) (av := [.int x1, .int v4]) (st := [.ref x0]) (cMd_in (l := gl Γ) hl e6) kMd_in iMd_in (iv_static (y := yMd_in) (θ' := tMd_in) (n := 2) (As := [.int x1, .int v4]) kMd_in (gT_in 1437 (by decide +kernel) rfl) sMd_in iMd_in mMd_in rfl (show decode (tC tMd_doing) 19 = .ok (.invokestatic 241, 3) by decide +kernel)) ⟨by rw [hR]; decide, by rw [hR]; decide, by rw [hR]; decide, by rw [hR]; decide⟩ (Nat.le_of_ble_eq_true rfl) ?_
    refine v_if_eq (pc := 22) 38 (show decode (tC tMd_doing) 22 = .ok (.ifCond .eq 16, 3) by decide +kernel) (by decide) (fun c => ?_) (fun c => ?_)
    · replace h := ite_t c h
      exact wMd_doing_38 hR hl  x0 x1 x2 x3 x4 x5 x0 S8 h
    · replace h := ite_f c h
      refine v_aload_n (pc := 25) (show decode (tC tMd_doing) 25 = .ok (.aload_n 0, 1) by decide +kernel) 0 rfl rfl ?_
      refine v_iload_n (pc := 26) (show decode (tC tMd_doing) 26 = .ok (.iload_n 2, 1) by decide +kernel) 2 rfl rfl ?_
      refine v_iload_n (pc := 27) (show decode (tC tMd_doing) 27 = .ok (.iload_n 3, 1) by decide +kernel) 3 rfl rfl ?_
      refine v_iload (pc := 28) (show decode (tC tMd_doing) 28 = .ok (.iload 4, 2) by decide +kernel) 4 rfl ?_
      refine v_iload (pc := 30) (show decode (tC tMd_doing) 30 = .ok (.iload 5, 2) by decide +kernel) 5 rfl ?_
      obtain ⟨_, e10, h⟩ := ob h
      obtain ⟨r11, S12, e9, h⟩ := ob2 h
      refine v_call (pc := 32) (v := (some (.int r11))) (y := yMd_isThere) (θ' := tMd_isThere) (rm := rMd_isThere) (av := [.ref x0, .int x2, .int x3, .int x4, .int x5]) (st := [.ref x0]) (cMd_isThere (l := gl Γ) hl e9) kMd_isThere iMd_isThere (iv_virt (y := yMd_isThere) (θ' := tMd_isThere) (kd := 12) (As := [.int x2, .int x3, .int x4, .int x5]) rfl (ckd_of e10) kMd_isThere (gT_in 1456 (by decide +kernel) rfl) nMd_isThere lMd_isThere mMd_isThere rfl (show decode (tC tMd_doing) 32 = .ok (.invokevirtual 245, 3) by decide +kernel)) ⟨by rw [hR]; decide, by rw [hR]; decide, by rw [hR]; decide, by rw [hR]; decide⟩ (Nat.le_of_ble_eq_true rfl) ?_
      refine v_if_ne (pc := 35) 42 (show decode (tC tMd_doing) 35 = .ok (.ifCond .ne 7, 3) by decide +kernel) (by decide) (fun c => ?_) (fun c => ?_)
      · replace h := ite_f c h
        refine v_aload_n (pc := 42) (show decode (tC tMd_doing) 42 = .ok (.aload_n 0, 1) by decide +kernel) 0 rfl rfl ?_
        obtain ⟨v13, e14, h⟩ := ob h
        refine v_getX (pc := 43) oF_Md_34 e14 (show decode (tC tMd_doing) 43 = .ok (.getfield 34, 3) by decide +kernel) ?_
        refine v_iload_n (pc := 46) (show decode (tC tMd_doing) 46 = .ok (.iload_n 1, 1) by decide +kernel) 1 rfl rfl ?_
        obtain ⟨v15, e16, h⟩ := ob h
        refine v_iald (pc := 47) e16 (show decode (tC tMd_doing) 47 = .ok (.iaload, 1) by decide +kernel) ?_
        refine v_iconst (pc := 48) (v := 4) (show decode (tC tMd_doing) 48 = .ok (.iconst 4, 1) by decide +kernel) (by decide) ?_
        refine v_icmp_eq (pc := 49) 59 (show decode (tC tMd_doing) 49 = .ok (.if_icmp .eq 10, 3) by decide +kernel) (by decide) (fun c => ?_) (fun c => ?_)
        · replace h := ite_t c h
          exact wMd_doing_59 hR hl  x0 x1 x2 x3 x4 x5 x0 S12 h
        · replace h := ite_f c h
          refine v_aload_n (pc := 52) (show decode (tC tMd_doing) 52 = .ok (.aload_n 0, 1) by decide +kernel) 0 rfl rfl ?_
          obtain ⟨v17, e18, h⟩ := ob h
          refine v_getI (pc := 53) oF_Md_204 (by decide) e18 (show decode (tC tMd_doing) 53 = .ok (.getfield 204, 3) by decide +kernel) ?_
          refine v_if_eq (pc := 56) 63 (show decode (tC tMd_doing) 56 = .ok (.ifCond .eq 7, 3) by decide +kernel) (by decide) (fun c => ?_) (fun c => ?_)
          · replace h := ite_t c h
            refine v_iconst (pc := 63) (v := 0) (show decode (tC tMd_doing) 63 = .ok (.iconst 0, 1) by decide +kernel) (by decide) ?_
            exact wMd_doing_64 hR hl  x0 x1 x2 x3 x4 x5 0 x0 S12 h
          · replace h := ite_f c h
            exact wMd_doing_59 hR hl  x0 x1 x2 x3 x4 x5 x0 S12 h
      · replace h := ite_t c h
        exact wMd_doing_38 hR hl  x0 x1 x2 x3 x4 x5 x0 S12 h
  · replace h := ite_t c h
    refine v_iconst (pc := 10) (v := 2) (show decode (tC tMd_doing) 10 = .ok (.iconst 2, 1) by decide +kernel) (by decide) ?_
    refine v_goto (pc := 11) 64 (show decode (tC tMd_doing) 11 = .ok (.goto 53, 3) by decide +kernel) (by decide) ?_
    exact wMd_doing_64 hR hl  x0 x1 x2 x3 x4 x5 2 x0 S3 h
theorem cMd_doing {l : Launch} (hl : l.flags = pinnedFlags ++ [noTraceFlag]) {D : va_G} {dA : Nat → ClassId} {B : Nat} {x0 : Nat} {x1 : Int32} {x2 : Int32} {x3 : Int32} {x4 : Int32} {x5 : Int32} {S : Sx} {X : Sx} (h : fMd_doing x0 x1 x2 x3 x4 x5 S = some X) : Mx l yMd_doing tMd_doing rMd_doing 0 0 D dA B S [.ref x0, .int x1, .int x2, .int x3, .int x4, .int x5] 0 none X :=
  mx_of hl (by decide) rfl rfl (Nat.le_of_ble_eq_true rfl) (fun Γ e1 e2 e3 e4 e5 => by subst e1; subst e3; subst e4; subst e5; exact wMd_doing e2 hl x0 x1 x2 x3 x4 x5 S h)
/-! MatchPipeModel.table(IIIII)I -/
def yMd_table : MethodName := ⟨"MatchPipeModel", "table", "(IIIII)I"⟩
def tMd_table : tM := (prog_14_method_12_code, "MatchPipeModel", 8, "table", some .int, [])
def rMd_table : Room := { frames := 1, cells := 0, slots := 0, locals := 21 }
theorem kMd_table : cOf yMd_table tMd_table ∈ gT := gT_in 1463 (by decide +kernel) rfl
theorem iMd_table : Cond.initialized yMd_table.cls ∈ gT := gT_in 68 (by decide +kernel) rfl
theorem mMd_table : okM yMd_table 5 := ⟨by decide, by decide, by unfold nPar; decide +kernel⟩
theorem nMd_table : Cond.instanceMethod yMd_table ∈ gT := gT_in 1461 (by decide +kernel) rfl
theorem lMd_table : Cond.selects "MatchPipeModel" yMd_table yMd_table ∈ gT := gT_in 1462 (by decide +kernel) rfl
def fMd_table_154  (x0 : Nat) (x1 : Int32) (x2 : Int32) (x3 : Int32) (x4 : Int32) (x5 : Int32) (z0 : Int32) (z1 : Nat) (S : Sx) : Option (Int32 × Sx) :=
    (pI S 12 0 z1 z0).bind fun S1 =>
    (gI S1 12 0 x0).bind fun v3 =>
    if v3 ≤ 0 then
    ((gX S1 12 21 x0).bind fun v5 =>
    (gI S1 12 4 x0).bind fun v7 =>
    (qI S1 v5 v7 x1).bind fun S9 =>
    (gX S9 12 22 x0).bind fun v11 =>
    (gI S9 12 4 x0).bind fun v13 =>
    (qI S9 v11 v13 x2).bind fun S15 =>
    (gX S15 12 23 x0).bind fun v17 =>
    (gI S15 12 4 x0).bind fun v19 =>
    (qI S15 v17 v19 (x3 - x3 / 4 * 4)).bind fun S22 =>
    (gX S22 12 24 x0).bind fun v24 =>
    (gI S22 12 4 x0).bind fun v26 =>
    (qI S22 v24 v26 (x3 / 4)).bind fun S29 =>
    (gX S29 12 25 x0).bind fun v31 =>
    (gI S29 12 4 x0).bind fun v33 =>
    (qI S29 v31 v33 x4).bind fun S35 =>
    (gX S35 12 26 x0).bind fun v37 =>
    (gI S35 12 4 x0).bind fun v39 =>
    (qI S35 v37 v39 x5).bind fun S41 =>
    (gX S41 12 35 x0).bind fun v43 =>
    (gI S41 12 4 x0).bind fun v45 =>
    (qI S41 v43 v45 0).bind fun S47 =>
    (gI S47 12 4 x0).bind fun v49 =>
    (pI S47 12 4 x0 (v49 + 1)).bind fun S51 =>
    (gI S51 12 4 x0).bind fun v53 =>
    some (v53 - 1, S51))
    else
    (some (0, S1))
set_option maxRecDepth 100000 in
set_option maxHeartbeats 4000000 in
theorem wMd_table_154 {Γ : vG} (hR : gR Γ = rMd_table) (hl : (gl Γ).flags = pinnedFlags ++ [noTraceFlag]) {X : Int32 × Sx}  : ∀ (x0 : Nat) (x1 : Int32) (x2 : Int32) (x3 : Int32) (x4 : Int32) (x5 : Int32) (z0 : Int32) (z1 : Nat) (S : Sx), fMd_table_154  x0 x1 x2 x3 x4 x5 z0 z1 S = some X → vV Γ tMd_table (mQ Γ 0 0 0 (some (.int X.1)) X.2) S 0 0 154 [(0, .ref x0), (1, .int x1), (2, .int x2), (3, .int x3), (4, .int x4), (5, .int x5)] [.int z0, .ref z1] := by
  intro x0 x1 x2 x3 x4 x5 z0 z1 S h
  unfold fMd_table_154 at h
  obtain ⟨S1, e2, h⟩ := ob h
  refine v_putI (pc := 154) oF_Md_183 (fin_ok (kd := 12) (k := 0) (by decide +kernel)) e2 (show decode (tC tMd_table) 154 = .ok (.putfield 183, 3) by decide +kernel) ?_
  refine v_aload_n (pc := 157) (show decode (tC tMd_table) 157 = .ok (.aload_n 0, 1) by decide +kernel) 0 rfl rfl ?_
  obtain ⟨v3, e4, h⟩ := ob h
  refine v_getI (pc := 158) oF_Md_183 (by decide) e4 (show decode (tC tMd_table) 158 = .ok (.getfield 183, 3) by decide +kernel) ?_
  refine v_if_le (pc := 161) 166 (show decode (tC tMd_table) 161 = .ok (.ifCond .le 5, 3) by decide +kernel) (by decide) (fun c => ?_) (fun c => ?_)
  · replace h := ite_t c h
    refine v_aload_n (pc := 166) (show decode (tC tMd_table) 166 = .ok (.aload_n 0, 1) by decide +kernel) 0 rfl rfl ?_
    obtain ⟨v5, e6, h⟩ := ob h
    refine v_getX (pc := 167) oF_Md_49 e6 (show decode (tC tMd_table) 167 = .ok (.getfield 49, 3) by decide +kernel) ?_
    refine v_aload_n (pc := 170) (show decode (tC tMd_table) 170 = .ok (.aload_n 0, 1) by decide +kernel) 0 rfl rfl ?_
    obtain ⟨v7, e8, h⟩ := ob h
    refine v_getI (pc := 171) oF_Md_195 (by decide) e8 (show decode (tC tMd_table) 171 = .ok (.getfield 195, 3) by decide +kernel) ?_
    refine v_iload_n (pc := 174) (show decode (tC tMd_table) 174 = .ok (.iload_n 1, 1) by decide +kernel) 1 rfl rfl ?_
    obtain ⟨S9, e10, h⟩ := ob h
    refine v_iast (pc := 175) e10 (show decode (tC tMd_table) 175 = .ok (.iastore, 1) by decide +kernel) ?_
    refine v_aload_n (pc := 176) (show decode (tC tMd_table) 176 = .ok (.aload_n 0, 1) by decide +kernel) 0 rfl rfl ?_
    obtain ⟨v11, e12, h⟩ := ob h
    refine v_getX (pc := 177) oF_Md_52 e12 (show decode (tC tMd_table) 177 = .ok (.getfield 52, 3) by decide +kernel) ?_
    refine v_aload_n (pc := 180) (show decode (tC tMd_table) 180 = .ok (.aload_n 0, 1) by decide +kernel) 0 rfl rfl ?_
    obtain ⟨v13, e14, h⟩ := ob h
    refine v_getI (pc := 181) oF_Md_195 (by decide) e14 (show decode (tC tMd_table) 181 = .ok (.getfield 195, 3) by decide +kernel) ?_
    refine v_iload_n (pc := 184) (show decode (tC tMd_table) 184 = .ok (.iload_n 2, 1) by decide +kernel) 2 rfl rfl ?_
    obtain ⟨S15, e16, h⟩ := ob h
    refine v_iast (pc := 185) e16 (show decode (tC tMd_table) 185 = .ok (.iastore, 1) by decide +kernel) ?_
    refine v_aload_n (pc := 186) (show decode (tC tMd_table) 186 = .ok (.aload_n 0, 1) by decide +kernel) 0 rfl rfl ?_
    obtain ⟨v17, e18, h⟩ := ob h
    refine v_getX (pc := 187) oF_Md_55 e18 (show decode (tC tMd_table) 187 = .ok (.getfield 55, 3) by decide +kernel) ?_
    refine v_aload_n (pc := 190) (show decode (tC tMd_table) 190 = .ok (.aload_n 0, 1) by decide +kernel) 0 rfl rfl ?_
    obtain ⟨v19, e20, h⟩ := ob h
    refine v_getI (pc := 191) oF_Md_195 (by decide) e20 (show decode (tC tMd_table) 191 = .ok (.getfield 195, 3) by decide +kernel) ?_
    refine v_iload_n (pc := 194) (show decode (tC tMd_table) 194 = .ok (.iload_n 3, 1) by decide +kernel) 3 rfl rfl ?_
    refine v_iconst (pc := 195) (v := 4) (show decode (tC tMd_table) 195 = .ok (.iconst 4, 1) by decide +kernel) (by decide) ?_
    refine v_irem (pc := 196) (show decode (tC tMd_table) 196 = .ok (.irem, 1) by decide +kernel) (by decide) ?_
    obtain ⟨S22, e23, h⟩ := ob h
    refine v_iast (pc := 197) e23 (show decode (tC tMd_table) 197 = .ok (.iastore, 1) by decide +kernel) ?_
    refine v_aload_n (pc := 198) (show decode (tC tMd_table) 198 = .ok (.aload_n 0, 1) by decide +kernel) 0 rfl rfl ?_
    obtain ⟨v24, e25, h⟩ := ob h
    refine v_getX (pc := 199) oF_Md_58 e25 (show decode (tC tMd_table) 199 = .ok (.getfield 58, 3) by decide +kernel) ?_
    refine v_aload_n (pc := 202) (show decode (tC tMd_table) 202 = .ok (.aload_n 0, 1) by decide +kernel) 0 rfl rfl ?_
    obtain ⟨v26, e27, h⟩ := ob h
    refine v_getI (pc := 203) oF_Md_195 (by decide) e27 (show decode (tC tMd_table) 203 = .ok (.getfield 195, 3) by decide +kernel) ?_
    refine v_iload_n (pc := 206) (show decode (tC tMd_table) 206 = .ok (.iload_n 3, 1) by decide +kernel) 3 rfl rfl ?_
    refine v_iconst (pc := 207) (v := 4) (show decode (tC tMd_table) 207 = .ok (.iconst 4, 1) by decide +kernel) (by decide) ?_
    refine v_idiv (pc := 208) (show decode (tC tMd_table) 208 = .ok (.idiv, 1) by decide +kernel) (by decide) ?_
    obtain ⟨S29, e30, h⟩ := ob h
    refine v_iast (pc := 209) e30 (show decode (tC tMd_table) 209 = .ok (.iastore, 1) by decide +kernel) ?_
    refine v_aload_n (pc := 210) (show decode (tC tMd_table) 210 = .ok (.aload_n 0, 1) by decide +kernel) 0 rfl rfl ?_
    obtain ⟨v31, e32, h⟩ := ob h
    refine v_getX (pc := 211) oF_Md_61 e32 (show decode (tC tMd_table) 211 = .ok (.getfield 61, 3) by decide +kernel) ?_
    refine v_aload_n (pc := 214) (show decode (tC tMd_table) 214 = .ok (.aload_n 0, 1) by decide +kernel) 0 rfl rfl ?_
    obtain ⟨v33, e34, h⟩ := ob h
    refine v_getI (pc := 215) oF_Md_195 (by decide) e34 (show decode (tC tMd_table) 215 = .ok (.getfield 195, 3) by decide +kernel) ?_
    refine v_iload (pc := 218) (show decode (tC tMd_table) 218 = .ok (.iload 4, 2) by decide +kernel) 4 rfl ?_
    obtain ⟨S35, e36, h⟩ := ob h
    refine v_iast (pc := 220) e36 (show decode (tC tMd_table) 220 = .ok (.iastore, 1) by decide +kernel) ?_
    refine v_aload_n (pc := 221) (show decode (tC tMd_table) 221 = .ok (.aload_n 0, 1) by decide +kernel) 0 rfl rfl ?_
    obtain ⟨v37, e38, h⟩ := ob h
    refine v_getX (pc := 222) oF_Md_64 e38 (show decode (tC tMd_table) 222 = .ok (.getfield 64, 3) by decide +kernel) ?_
    refine v_aload_n (pc := 225) (show decode (tC tMd_table) 225 = .ok (.aload_n 0, 1) by decide +kernel) 0 rfl rfl ?_
    obtain ⟨v39, e40, h⟩ := ob h
    refine v_getI (pc := 226) oF_Md_195 (by decide) e40 (show decode (tC tMd_table) 226 = .ok (.getfield 195, 3) by decide +kernel) ?_
    refine v_iload (pc := 229) (show decode (tC tMd_table) 229 = .ok (.iload 5, 2) by decide +kernel) 5 rfl ?_
    obtain ⟨S41, e42, h⟩ := ob h
    refine v_iast (pc := 231) e42 (show decode (tC tMd_table) 231 = .ok (.iastore, 1) by decide +kernel) ?_
    refine v_aload_n (pc := 232) (show decode (tC tMd_table) 232 = .ok (.aload_n 0, 1) by decide +kernel) 0 rfl rfl ?_
    obtain ⟨v43, e44, h⟩ := ob h
    refine v_getX (pc := 233) oF_Md_89 e44 (show decode (tC tMd_table) 233 = .ok (.getfield 89, 3) by decide +kernel) ?_
    refine v_aload_n (pc := 236) (show decode (tC tMd_table) 236 = .ok (.aload_n 0, 1) by decide +kernel) 0 rfl rfl ?_
    obtain ⟨v45, e46, h⟩ := ob h
    refine v_getI (pc := 237) oF_Md_195 (by decide) e46 (show decode (tC tMd_table) 237 = .ok (.getfield 195, 3) by decide +kernel) ?_
    refine v_iconst (pc := 240) (v := 0) (show decode (tC tMd_table) 240 = .ok (.iconst 0, 1) by decide +kernel) (by decide) ?_
    obtain ⟨S47, e48, h⟩ := ob h
    refine v_iast (pc := 241) e48 (show decode (tC tMd_table) 241 = .ok (.iastore, 1) by decide +kernel) ?_
    refine v_aload_n (pc := 242) (show decode (tC tMd_table) 242 = .ok (.aload_n 0, 1) by decide +kernel) 0 rfl rfl ?_
    refine v_dup (pc := 243) (show decode (tC tMd_table) 243 = .ok (.dup, 1) by decide +kernel) rfl ?_
    obtain ⟨v49, e50, h⟩ := ob h
    refine v_getI (pc := 244) oF_Md_195 (by decide) e50 (show decode (tC tMd_table) 244 = .ok (.getfield 195, 3) by decide +kernel) ?_
    refine v_iconst (pc := 247) (v := 1) (show decode (tC tMd_table) 247 = .ok (.iconst 1, 1) by decide +kernel) (by decide) ?_
    refine v_iadd (pc := 248) (show decode (tC tMd_table) 248 = .ok (.iadd, 1) by decide +kernel) ?_
    obtain ⟨S51, e52, h⟩ := ob h
    refine v_putI (pc := 249) oF_Md_195 (fin_ok (kd := 12) (k := 4) (by decide +kernel)) e52 (show decode (tC tMd_table) 249 = .ok (.putfield 195, 3) by decide +kernel) ?_
    refine v_aload_n (pc := 252) (show decode (tC tMd_table) 252 = .ok (.aload_n 0, 1) by decide +kernel) 0 rfl rfl ?_
    obtain ⟨v53, e54, h⟩ := ob h
    refine v_getI (pc := 253) oF_Md_195 (by decide) e54 (show decode (tC tMd_table) 253 = .ok (.getfield 195, 3) by decide +kernel) ?_
    refine v_iconst (pc := 256) (v := 1) (show decode (tC tMd_table) 256 = .ok (.iconst 1, 1) by decide +kernel) (by decide) ?_
    refine v_isub (pc := 257) (show decode (tC tMd_table) 257 = .ok (.isub, 1) by decide +kernel) ?_
    obtain rfl := Option.some.inj h
    refine v_wide (ce2 := 0) (sl2 := 0) (by decide) (by decide) ?_
    exact v_iret (pc := 258) rfl (show decode (tC tMd_table) 258 = .ok (.ireturn, 1) by decide +kernel)
  · replace h := ite_f c h
    refine v_iconst (pc := 164) (v := 0) (show decode (tC tMd_table) 164 = .ok (.iconst 0, 1) by decide +kernel) (by decide) ?_
    obtain rfl := Option.some.inj h
    refine v_wide (ce2 := 0) (sl2 := 0) (by decide) (by decide) ?_
    exact v_iret (pc := 165) rfl (show decode (tC tMd_table) 165 = .ok (.ireturn, 1) by decide +kernel)
def fMd_table_149  (x0 : Nat) (x1 : Int32) (x2 : Int32) (x3 : Int32) (x4 : Int32) (x5 : Int32) (z0 : Nat) (S : Sx) : Option (Int32 × Sx) :=
    fMd_table_154  x0 x1 x2 x3 x4 x5 3 z0 S
set_option maxRecDepth 100000 in
set_option maxHeartbeats 4000000 in
theorem wMd_table_149 {Γ : vG} (hR : gR Γ = rMd_table) (hl : (gl Γ).flags = pinnedFlags ++ [noTraceFlag]) {X : Int32 × Sx}  : ∀ (x0 : Nat) (x1 : Int32) (x2 : Int32) (x3 : Int32) (x4 : Int32) (x5 : Int32) (z0 : Nat) (S : Sx), fMd_table_149  x0 x1 x2 x3 x4 x5 z0 S = some X → vV Γ tMd_table (mQ Γ 0 0 0 (some (.int X.1)) X.2) S 0 0 149 [(0, .ref x0), (1, .int x1), (2, .int x2), (3, .int x3), (4, .int x4), (5, .int x5)] [.ref z0] := by
  intro x0 x1 x2 x3 x4 x5 z0 S h
  unfold fMd_table_149 at h
  refine v_iconst (pc := 149) (v := 3) (show decode (tC tMd_table) 149 = .ok (.iconst 3, 1) by decide +kernel) (by decide) ?_
  refine v_goto (pc := 150) 154 (show decode (tC tMd_table) 150 = .ok (.goto 4, 3) by decide +kernel) (by decide) ?_
  exact wMd_table_154 hR hl  x0 x1 x2 x3 x4 x5 3 z0 S h
def fMd_table_112  (x0 : Nat) (x1 : Int32) (x2 : Int32) (x3 : Int32) (x4 : Int32) (x5 : Int32) (x6 : Int32) (z0 : Int32) (S : Sx) : Option (Int32 × Sx) :=
    if x6 = 0 then
    (fMd_table_154  x0 x1 x2 x3 x4 x5 1 x0 S)
    else
    (if z0 = 0 then
    (fMd_table_154  x0 x1 x2 x3 x4 x5 2 x0 S)
    else
    ((gI S 12 4 x0).bind fun v1 =>
    if v1 = 8 then
    (fMd_table_149  x0 x1 x2 x3 x4 x5 x0 S)
    else
    ((gI S 12 7 x0).bind fun v3 =>
    if v3 = 0 then
    (fMd_table_154  x0 x1 x2 x3 x4 x5 0 x0 S)
    else
    (fMd_table_149  x0 x1 x2 x3 x4 x5 x0 S))))
set_option maxRecDepth 100000 in
set_option maxHeartbeats 4000000 in
theorem wMd_table_112 {Γ : vG} (hR : gR Γ = rMd_table) (hl : (gl Γ).flags = pinnedFlags ++ [noTraceFlag]) {X : Int32 × Sx}  : ∀ (x0 : Nat) (x1 : Int32) (x2 : Int32) (x3 : Int32) (x4 : Int32) (x5 : Int32) (x6 : Int32) (z0 : Int32) (S : Sx), fMd_table_112  x0 x1 x2 x3 x4 x5 x6 z0 S = some X → vV Γ tMd_table (mQ Γ 0 0 0 (some (.int X.1)) X.2) S 0 0 112 [(0, .ref x0), (1, .int x1), (2, .int x2), (3, .int x3), (4, .int x4), (5, .int x5), (6, .int x6)] [.int z0] := by
  intro x0 x1 x2 x3 x4 x5 x6 z0 S h
  unfold fMd_table_112 at h
  refine v_istore (pc := 112) [(7, .int z0), (0, .ref x0), (1, .int x1), (2, .int x2), (3, .int x3), (4, .int x4), (5, .int x5), (6, .int x6)] (show decode (tC tMd_table) 112 = .ok (.istore 7, 2) by decide +kernel) (by decide) rfl ?_
  refine v_aload_n (pc := 114) (show decode (tC tMd_table) 114 = .ok (.aload_n 0, 1) by decide +kernel) 1 rfl rfl ?_
  refine v_iload (pc := 115) (show decode (tC tMd_table) 115 = .ok (.iload 6, 2) by decide +kernel) 7 rfl ?_
  refine v_if_ne (pc := 117) 124 (show decode (tC tMd_table) 117 = .ok (.ifCond .ne 7, 3) by decide +kernel) (by decide) (fun c => ?_) (fun c => ?_)
  · replace h := ite_f c h
    refine v_iload (pc := 124) (show decode (tC tMd_table) 124 = .ok (.iload 7, 2) by decide +kernel) 0 rfl ?_
    refine v_if_ne (pc := 126) 133 (show decode (tC tMd_table) 126 = .ok (.ifCond .ne 7, 3) by decide +kernel) (by decide) (fun c => ?_) (fun c => ?_)
    · replace h := ite_f c h
      refine v_aload_n (pc := 133) (show decode (tC tMd_table) 133 = .ok (.aload_n 0, 1) by decide +kernel) 1 rfl rfl ?_
      obtain ⟨v1, e2, h⟩ := ob h
      refine v_getI (pc := 134) oF_Md_195 (by decide) e2 (show decode (tC tMd_table) 134 = .ok (.getfield 195, 3) by decide +kernel) ?_
      refine v_bipush (pc := 137) (v := 8) (show decode (tC tMd_table) 137 = .ok (.bipush 8, 2) by decide +kernel) (by decide) ?_
      refine v_icmp_eq (pc := 139) 149 (show decode (tC tMd_table) 139 = .ok (.if_icmp .eq 10, 3) by decide +kernel) (by decide) (fun c => ?_) (fun c => ?_)
      · replace h := ite_t c h
        refine v_sub [(0, .ref x0), (1, .int x1), (2, .int x2), (3, .int x3), (4, .int x4), (5, .int x5)] [1, 2, 3, 4, 5, 6] rfl ?_
        exact wMd_table_149 hR hl  x0 x1 x2 x3 x4 x5 x0 S h
      · replace h := ite_f c h
        refine v_aload_n (pc := 142) (show decode (tC tMd_table) 142 = .ok (.aload_n 0, 1) by decide +kernel) 1 rfl rfl ?_
        obtain ⟨v3, e4, h⟩ := ob h
        refine v_getI (pc := 143) oF_Md_204 (by decide) e4 (show decode (tC tMd_table) 143 = .ok (.getfield 204, 3) by decide +kernel) ?_
        refine v_if_eq (pc := 146) 153 (show decode (tC tMd_table) 146 = .ok (.ifCond .eq 7, 3) by decide +kernel) (by decide) (fun c => ?_) (fun c => ?_)
        · replace h := ite_t c h
          refine v_iconst (pc := 153) (v := 0) (show decode (tC tMd_table) 153 = .ok (.iconst 0, 1) by decide +kernel) (by decide) ?_
          refine v_sub [(0, .ref x0), (1, .int x1), (2, .int x2), (3, .int x3), (4, .int x4), (5, .int x5)] [1, 2, 3, 4, 5, 6] rfl ?_
          exact wMd_table_154 hR hl  x0 x1 x2 x3 x4 x5 0 x0 S h
        · replace h := ite_f c h
          refine v_sub [(0, .ref x0), (1, .int x1), (2, .int x2), (3, .int x3), (4, .int x4), (5, .int x5)] [1, 2, 3, 4, 5, 6] rfl ?_
          exact wMd_table_149 hR hl  x0 x1 x2 x3 x4 x5 x0 S h
    · replace h := ite_t c h
      refine v_iconst (pc := 129) (v := 2) (show decode (tC tMd_table) 129 = .ok (.iconst 2, 1) by decide +kernel) (by decide) ?_
      refine v_goto (pc := 130) 154 (show decode (tC tMd_table) 130 = .ok (.goto 24, 3) by decide +kernel) (by decide) ?_
      refine v_sub [(0, .ref x0), (1, .int x1), (2, .int x2), (3, .int x3), (4, .int x4), (5, .int x5)] [1, 2, 3, 4, 5, 6] rfl ?_
      exact wMd_table_154 hR hl  x0 x1 x2 x3 x4 x5 2 x0 S h
  · replace h := ite_t c h
    refine v_iconst (pc := 120) (v := 1) (show decode (tC tMd_table) 120 = .ok (.iconst 1, 1) by decide +kernel) (by decide) ?_
    refine v_goto (pc := 121) 154 (show decode (tC tMd_table) 121 = .ok (.goto 33, 3) by decide +kernel) (by decide) ?_
    refine v_sub [(0, .ref x0), (1, .int x1), (2, .int x2), (3, .int x3), (4, .int x4), (5, .int x5)] [1, 2, 3, 4, 5, 6] rfl ?_
    exact wMd_table_154 hR hl  x0 x1 x2 x3 x4 x5 1 x0 S h
def fMd_table_111  (x0 : Nat) (x1 : Int32) (x2 : Int32) (x3 : Int32) (x4 : Int32) (x5 : Int32) (x6 : Int32) (S : Sx) : Option (Int32 × Sx) :=
    fMd_table_112  x0 x1 x2 x3 x4 x5 x6 0 S
set_option maxRecDepth 100000 in
set_option maxHeartbeats 4000000 in
theorem wMd_table_111 {Γ : vG} (hR : gR Γ = rMd_table) (hl : (gl Γ).flags = pinnedFlags ++ [noTraceFlag]) {X : Int32 × Sx}  : ∀ (x0 : Nat) (x1 : Int32) (x2 : Int32) (x3 : Int32) (x4 : Int32) (x5 : Int32) (x6 : Int32) (S : Sx), fMd_table_111  x0 x1 x2 x3 x4 x5 x6 S = some X → vV Γ tMd_table (mQ Γ 0 0 0 (some (.int X.1)) X.2) S 0 0 111 [(0, .ref x0), (1, .int x1), (2, .int x2), (3, .int x3), (4, .int x4), (5, .int x5), (6, .int x6)] [] := by
  intro x0 x1 x2 x3 x4 x5 x6 S h
  unfold fMd_table_111 at h
  refine v_iconst (pc := 111) (v := 0) (show decode (tC tMd_table) 111 = .ok (.iconst 0, 1) by decide +kernel) (by decide) ?_
  exact wMd_table_112 hR hl  x0 x1 x2 x3 x4 x5 x6 0 S h
def fMd_table_102  (x0 : Nat) (x1 : Int32) (x2 : Int32) (x3 : Int32) (x4 : Int32) (x5 : Int32) (x6 : Int32) (S : Sx) : Option (Int32 × Sx) :=
    if x3 = 5 then
    (fMd_table_111  x0 x1 x2 x3 x4 x5 x6 S)
    else
    (fMd_table_112  x0 x1 x2 x3 x4 x5 x6 1 S)
set_option maxRecDepth 100000 in
set_option maxHeartbeats 4000000 in
theorem wMd_table_102 {Γ : vG} (hR : gR Γ = rMd_table) (hl : (gl Γ).flags = pinnedFlags ++ [noTraceFlag]) {X : Int32 × Sx}  : ∀ (x0 : Nat) (x1 : Int32) (x2 : Int32) (x3 : Int32) (x4 : Int32) (x5 : Int32) (x6 : Int32) (S : Sx), fMd_table_102  x0 x1 x2 x3 x4 x5 x6 S = some X → vV Γ tMd_table (mQ Γ 0 0 0 (some (.int X.1)) X.2) S 0 0 102 [(0, .ref x0), (1, .int x1), (2, .int x2), (3, .int x3), (4, .int x4), (5, .int x5), (6, .int x6)] [] := by
  intro x0 x1 x2 x3 x4 x5 x6 S h
  unfold fMd_table_102 at h
  refine v_iload_n (pc := 102) (show decode (tC tMd_table) 102 = .ok (.iload_n 3, 1) by decide +kernel) 3 rfl rfl ?_
  refine v_iconst (pc := 103) (v := 5) (show decode (tC tMd_table) 103 = .ok (.iconst 5, 1) by decide +kernel) (by decide) ?_
  refine v_icmp_eq (pc := 104) 111 (show decode (tC tMd_table) 104 = .ok (.if_icmp .eq 7, 3) by decide +kernel) (by decide) (fun c => ?_) (fun c => ?_)
  · replace h := ite_t c h
    exact wMd_table_111 hR hl  x0 x1 x2 x3 x4 x5 x6 S h
  · replace h := ite_f c h
    refine v_iconst (pc := 107) (v := 1) (show decode (tC tMd_table) 107 = .ok (.iconst 1, 1) by decide +kernel) (by decide) ?_
    refine v_goto (pc := 108) 112 (show decode (tC tMd_table) 108 = .ok (.goto 4, 3) by decide +kernel) (by decide) ?_
    exact wMd_table_112 hR hl  x0 x1 x2 x3 x4 x5 x6 1 S h
def fMd_table_74  (x0 : Nat) (x1 : Int32) (x2 : Int32) (x3 : Int32) (x4 : Int32) (x5 : Int32) (z0 : Int32) (S : Sx) : Option (Int32 × Sx) :=
    bd2 (fMd_in x3 12 S) fun r2 S3 =>
    if r2 = 0 then
    (fMd_table_111  x0 x1 x2 x3 x4 x5 z0 S3)
    else
    (if (3 : Int32) ≤ (x3 - x3 / 4 * 4) then
    (fMd_table_111  x0 x1 x2 x3 x4 x5 z0 S3)
    else
    (if x2 = (-1) then
    (if (4 : Int32) ≤ x3 then
    (fMd_table_111  x0 x1 x2 x3 x4 x5 z0 S3)
    else
    (fMd_table_102  x0 x1 x2 x3 x4 x5 z0 S3))
    else
    (fMd_table_102  x0 x1 x2 x3 x4 x5 z0 S3)))
set_option maxRecDepth 100000 in
set_option maxHeartbeats 4000000 in
theorem wMd_table_74 {Γ : vG} (hR : gR Γ = rMd_table) (hl : (gl Γ).flags = pinnedFlags ++ [noTraceFlag]) {X : Int32 × Sx}  : ∀ (x0 : Nat) (x1 : Int32) (x2 : Int32) (x3 : Int32) (x4 : Int32) (x5 : Int32) (z0 : Int32) (S : Sx), fMd_table_74  x0 x1 x2 x3 x4 x5 z0 S = some X → vV Γ tMd_table (mQ Γ 0 0 0 (some (.int X.1)) X.2) S 0 0 74 [(0, .ref x0), (1, .int x1), (2, .int x2), (3, .int x3), (4, .int x4), (5, .int x5)] [.int z0] := by
  intro x0 x1 x2 x3 x4 x5 z0 S h
  unfold fMd_table_74 at h
  refine v_istore (pc := 74) [(6, .int z0), (0, .ref x0), (1, .int x1), (2, .int x2), (3, .int x3), (4, .int x4), (5, .int x5)] (show decode (tC tMd_table) 74 = .ok (.istore 6, 2) by decide +kernel) (by decide) rfl ?_
  refine v_iload_n (pc := 76) (show decode (tC tMd_table) 76 = .ok (.iload_n 3, 1) by decide +kernel) 4 rfl rfl ?_
  refine v_bipush (pc := 77) (v := 12) (show decode (tC tMd_table) 77 = .ok (.bipush 12, 2) by decide +kernel) (by decide) ?_
  obtain ⟨r2, S3, e1, h⟩ := ob2 h
  refine v_call (pc := 79) (v := (some (.int r2))) (y := yMd_in) (θ' := tMd_in) (rm := rMd_in) (av := [.int x3, .int 12]) (st := []) (cMd_in (l := gl Γ) hl e1) kMd_in iMd_in (iv_static (y := yMd_in) (θ' := tMd_in) (n := 2) (As := [.int x3, .int 12]) kMd_in (gT_in 1437 (by decide +kernel) rfl) sMd_in iMd_in mMd_in rfl (show decode (tC tMd_table) 79 = .ok (.invokestatic 241, 3) by decide +kernel)) ⟨by rw [hR]; decide, by rw [hR]; decide, by rw [hR]; decide, by rw [hR]; decide⟩ (Nat.le_of_ble_eq_true rfl) ?_
  refine v_if_eq (pc := 82) 111 (show decode (tC tMd_table) 82 = .ok (.ifCond .eq 29, 3) by decide +kernel) (by decide) (fun c => ?_) (fun c => ?_)
  · replace h := ite_t c h
    refine v_sub [(0, .ref x0), (1, .int x1), (2, .int x2), (3, .int x3), (4, .int x4), (5, .int x5), (6, .int z0)] [1, 2, 3, 4, 5, 6, 0] rfl ?_
    exact wMd_table_111 hR hl  x0 x1 x2 x3 x4 x5 z0 S3 h
  · replace h := ite_f c h
    refine v_iload_n (pc := 85) (show decode (tC tMd_table) 85 = .ok (.iload_n 3, 1) by decide +kernel) 4 rfl rfl ?_
    refine v_iconst (pc := 86) (v := 4) (show decode (tC tMd_table) 86 = .ok (.iconst 4, 1) by decide +kernel) (by decide) ?_
    refine v_irem (pc := 87) (show decode (tC tMd_table) 87 = .ok (.irem, 1) by decide +kernel) (by decide) ?_
    refine v_iconst (pc := 88) (v := 3) (show decode (tC tMd_table) 88 = .ok (.iconst 3, 1) by decide +kernel) (by decide) ?_
    refine v_icmp_ge (pc := 89) 111 (show decode (tC tMd_table) 89 = .ok (.if_icmp .ge 22, 3) by decide +kernel) (by decide) (fun c => ?_) (fun c => ?_)
    · replace h := ite_t c h
      refine v_sub [(0, .ref x0), (1, .int x1), (2, .int x2), (3, .int x3), (4, .int x4), (5, .int x5), (6, .int z0)] [1, 2, 3, 4, 5, 6, 0] rfl ?_
      exact wMd_table_111 hR hl  x0 x1 x2 x3 x4 x5 z0 S3 h
    · replace h := ite_f c h
      refine v_iload_n (pc := 92) (show decode (tC tMd_table) 92 = .ok (.iload_n 2, 1) by decide +kernel) 3 rfl rfl ?_
      refine v_iconst (pc := 93) (v := (-1)) (show decode (tC tMd_table) 93 = .ok (.iconst (-1), 1) by decide +kernel) (by decide) ?_
      refine v_icmp_ne (pc := 94) 102 (show decode (tC tMd_table) 94 = .ok (.if_icmp .ne 8, 3) by decide +kernel) (by decide) (fun c => ?_) (fun c => ?_)
      · replace h := ite_f c h
        refine v_sub [(0, .ref x0), (1, .int x1), (2, .int x2), (3, .int x3), (4, .int x4), (5, .int x5), (6, .int z0)] [1, 2, 3, 4, 5, 6, 0] rfl ?_
        exact wMd_table_102 hR hl  x0 x1 x2 x3 x4 x5 z0 S3 h
      · replace h := ite_t c h
        refine v_iload_n (pc := 97) (show decode (tC tMd_table) 97 = .ok (.iload_n 3, 1) by decide +kernel) 4 rfl rfl ?_
        refine v_iconst (pc := 98) (v := 4) (show decode (tC tMd_table) 98 = .ok (.iconst 4, 1) by decide +kernel) (by decide) ?_
        refine v_icmp_ge (pc := 99) 111 (show decode (tC tMd_table) 99 = .ok (.if_icmp .ge 12, 3) by decide +kernel) (by decide) (fun c => ?_) (fun c => ?_)
        · replace h := ite_t c h
          refine v_sub [(0, .ref x0), (1, .int x1), (2, .int x2), (3, .int x3), (4, .int x4), (5, .int x5), (6, .int z0)] [1, 2, 3, 4, 5, 6, 0] rfl ?_
          exact wMd_table_111 hR hl  x0 x1 x2 x3 x4 x5 z0 S3 h
        · replace h := ite_f c h
          refine v_sub [(0, .ref x0), (1, .int x1), (2, .int x2), (3, .int x3), (4, .int x4), (5, .int x5), (6, .int z0)] [1, 2, 3, 4, 5, 6, 0] rfl ?_
          exact wMd_table_102 hR hl  x0 x1 x2 x3 x4 x5 z0 S3 h
def fMd_table_73  (x0 : Nat) (x1 : Int32) (x2 : Int32) (x3 : Int32) (x4 : Int32) (x5 : Int32) (S : Sx) : Option (Int32 × Sx) :=
    fMd_table_74  x0 x1 x2 x3 x4 x5 0 S
set_option maxRecDepth 100000 in
set_option maxHeartbeats 4000000 in
theorem wMd_table_73 {Γ : vG} (hR : gR Γ = rMd_table) (hl : (gl Γ).flags = pinnedFlags ++ [noTraceFlag]) {X : Int32 × Sx}  : ∀ (x0 : Nat) (x1 : Int32) (x2 : Int32) (x3 : Int32) (x4 : Int32) (x5 : Int32) (S : Sx), fMd_table_73  x0 x1 x2 x3 x4 x5 S = some X → vV Γ tMd_table (mQ Γ 0 0 0 (some (.int X.1)) X.2) S 0 0 73 [(0, .ref x0), (1, .int x1), (2, .int x2), (3, .int x3), (4, .int x4), (5, .int x5)] [] := by
  intro x0 x1 x2 x3 x4 x5 S h
  unfold fMd_table_73 at h
  refine v_iconst (pc := 73) (v := 0) (show decode (tC tMd_table) 73 = .ok (.iconst 0, 1) by decide +kernel) (by decide) ?_
  exact wMd_table_74 hR hl  x0 x1 x2 x3 x4 x5 0 S h
def fMd_table_27  (x0 : Nat) (x1 : Int32) (x2 : Int32) (x3 : Int32) (x4 : Int32) (x5 : Int32) (S : Sx) : Option (Int32 × Sx) :=
    if x1 = x2 then
    (fMd_table_73  x0 x1 x2 x3 x4 x5 S)
    else
    ((gI S 12 3 x0).bind fun v1 =>
    if (x4 &&& (((1 <<< (v1 &&& 31)) - 1) ^^^ (-1))) = 0 then
    (bd2 (fMd_in x5 16 S) fun r4 S5 =>
    if r4 = 0 then
    (fMd_table_73  x0 x1 x2 x3 x4 x5 S5)
    else
    (if ((x4 >>> (x5 &&& 31)) &&& 1) = 1 then
    (fMd_table_74  x0 x1 x2 x3 x4 x5 1 S5)
    else
    (fMd_table_73  x0 x1 x2 x3 x4 x5 S5)))
    else
    (fMd_table_73  x0 x1 x2 x3 x4 x5 S))
set_option maxRecDepth 100000 in
set_option maxHeartbeats 4000000 in
theorem wMd_table_27 {Γ : vG} (hR : gR Γ = rMd_table) (hl : (gl Γ).flags = pinnedFlags ++ [noTraceFlag]) {X : Int32 × Sx}  : ∀ (x0 : Nat) (x1 : Int32) (x2 : Int32) (x3 : Int32) (x4 : Int32) (x5 : Int32) (S : Sx), fMd_table_27  x0 x1 x2 x3 x4 x5 S = some X → vV Γ tMd_table (mQ Γ 0 0 0 (some (.int X.1)) X.2) S 0 0 27 [(0, .ref x0), (1, .int x1), (2, .int x2), (3, .int x3), (4, .int x4), (5, .int x5)] [] := by
  intro x0 x1 x2 x3 x4 x5 S h
  unfold fMd_table_27 at h
  refine v_iload_n (pc := 27) (show decode (tC tMd_table) 27 = .ok (.iload_n 1, 1) by decide +kernel) 1 rfl rfl ?_
  refine v_iload_n (pc := 28) (show decode (tC tMd_table) 28 = .ok (.iload_n 2, 1) by decide +kernel) 2 rfl rfl ?_
  refine v_icmp_eq (pc := 29) 73 (show decode (tC tMd_table) 29 = .ok (.if_icmp .eq 44, 3) by decide +kernel) (by decide) (fun c => ?_) (fun c => ?_)
  · replace h := ite_t c h
    exact wMd_table_73 hR hl  x0 x1 x2 x3 x4 x5 S h
  · replace h := ite_f c h
    refine v_iload (pc := 32) (show decode (tC tMd_table) 32 = .ok (.iload 4, 2) by decide +kernel) 4 rfl ?_
    refine v_iconst (pc := 34) (v := 1) (show decode (tC tMd_table) 34 = .ok (.iconst 1, 1) by decide +kernel) (by decide) ?_
    refine v_aload_n (pc := 35) (show decode (tC tMd_table) 35 = .ok (.aload_n 0, 1) by decide +kernel) 0 rfl rfl ?_
    obtain ⟨v1, e2, h⟩ := ob h
    refine v_getI (pc := 36) oF_Md_192 (by decide) e2 (show decode (tC tMd_table) 36 = .ok (.getfield 192, 3) by decide +kernel) ?_
    refine v_ishl (pc := 39) (show decode (tC tMd_table) 39 = .ok (.ishl, 1) by decide +kernel) ?_
    refine v_iconst (pc := 40) (v := 1) (show decode (tC tMd_table) 40 = .ok (.iconst 1, 1) by decide +kernel) (by decide) ?_
    refine v_isub (pc := 41) (show decode (tC tMd_table) 41 = .ok (.isub, 1) by decide +kernel) ?_
    refine v_iconst (pc := 42) (v := (-1)) (show decode (tC tMd_table) 42 = .ok (.iconst (-1), 1) by decide +kernel) (by decide) ?_
    refine v_ixor (pc := 43) (show decode (tC tMd_table) 43 = .ok (.ixor, 1) by decide +kernel) ?_
    refine v_iand (pc := 44) (show decode (tC tMd_table) 44 = .ok (.iand, 1) by decide +kernel) ?_
    refine v_if_ne (pc := 45) 73 (show decode (tC tMd_table) 45 = .ok (.ifCond .ne 28, 3) by decide +kernel) (by decide) (fun c => ?_) (fun c => ?_)
    · replace h := ite_f c h
      exact wMd_table_73 hR hl  x0 x1 x2 x3 x4 x5 S h
    · replace h := ite_t c h
      refine v_iload (pc := 48) (show decode (tC tMd_table) 48 = .ok (.iload 5, 2) by decide +kernel) 5 rfl ?_
      refine v_bipush (pc := 50) (v := 16) (show decode (tC tMd_table) 50 = .ok (.bipush 16, 2) by decide +kernel) (by decide) ?_
      obtain ⟨r4, S5, e3, h⟩ := ob2 h
      refine v_call (pc := 52) (v := (some (.int r4))) (y := yMd_in) (θ' := tMd_in) (rm := rMd_in) (av := [.int x5, .int 16]) (st := []) (cMd_in (l := gl Γ) hl e3) kMd_in iMd_in (iv_static (y := yMd_in) (θ' := tMd_in) (n := 2) (As := [.int x5, .int 16]) kMd_in (gT_in 1437 (by decide +kernel) rfl) sMd_in iMd_in mMd_in rfl (show decode (tC tMd_table) 52 = .ok (.invokestatic 241, 3) by decide +kernel)) ⟨by rw [hR]; decide, by rw [hR]; decide, by rw [hR]; decide, by rw [hR]; decide⟩ (Nat.le_of_ble_eq_true rfl) ?_
      refine v_if_eq (pc := 55) 73 (show decode (tC tMd_table) 55 = .ok (.ifCond .eq 18, 3) by decide +kernel) (by decide) (fun c => ?_) (fun c => ?_)
      · replace h := ite_t c h
        exact wMd_table_73 hR hl  x0 x1 x2 x3 x4 x5 S5 h
      · replace h := ite_f c h
        refine v_iload (pc := 58) (show decode (tC tMd_table) 58 = .ok (.iload 4, 2) by decide +kernel) 4 rfl ?_
        refine v_iload (pc := 60) (show decode (tC tMd_table) 60 = .ok (.iload 5, 2) by decide +kernel) 5 rfl ?_
        refine v_ishr (pc := 62) (show decode (tC tMd_table) 62 = .ok (.ishr, 1) by decide +kernel) ?_
        refine v_iconst (pc := 63) (v := 1) (show decode (tC tMd_table) 63 = .ok (.iconst 1, 1) by decide +kernel) (by decide) ?_
        refine v_iand (pc := 64) (show decode (tC tMd_table) 64 = .ok (.iand, 1) by decide +kernel) ?_
        refine v_iconst (pc := 65) (v := 1) (show decode (tC tMd_table) 65 = .ok (.iconst 1, 1) by decide +kernel) (by decide) ?_
        refine v_icmp_ne (pc := 66) 73 (show decode (tC tMd_table) 66 = .ok (.if_icmp .ne 7, 3) by decide +kernel) (by decide) (fun c => ?_) (fun c => ?_)
        · replace h := ite_f c h
          exact wMd_table_73 hR hl  x0 x1 x2 x3 x4 x5 S5 h
        · replace h := ite_t c h
          refine v_iconst (pc := 69) (v := 1) (show decode (tC tMd_table) 69 = .ok (.iconst 1, 1) by decide +kernel) (by decide) ?_
          refine v_goto (pc := 70) 74 (show decode (tC tMd_table) 70 = .ok (.goto 4, 3) by decide +kernel) (by decide) ?_
          exact wMd_table_74 hR hl  x0 x1 x2 x3 x4 x5 1 S5 h
def fMd_table (x0 : Nat) (x1 : Int32) (x2 : Int32) (x3 : Int32) (x4 : Int32) (x5 : Int32) (S : Sx) : Option (Int32 × Sx) :=
    (gI S 12 1 x0).bind fun v1 =>
    bd2 (fMd_in x1 v1 S) fun r4 S5 =>
    if r4 = 0 then
    (fMd_table_73  x0 x1 x2 x3 x4 x5 S5)
    else
    (if x2 = (-1) then
    (fMd_table_27  x0 x1 x2 x3 x4 x5 S5)
    else
    ((gI S5 12 1 x0).bind fun v6 =>
    bd2 (fMd_in x2 v6 S5) fun r9 S10 =>
    if r9 = 0 then
    (fMd_table_73  x0 x1 x2 x3 x4 x5 S10)
    else
    (fMd_table_27  x0 x1 x2 x3 x4 x5 S10)))
set_option maxRecDepth 100000 in
set_option maxHeartbeats 4000000 in
theorem wMd_table {Γ : vG} (hR : gR Γ = rMd_table) (hl : (gl Γ).flags = pinnedFlags ++ [noTraceFlag]) (x0 : Nat) (x1 : Int32) (x2 : Int32) (x3 : Int32) (x4 : Int32) (x5 : Int32) (S : Sx) {X : Int32 × Sx} (h : fMd_table x0 x1 x2 x3 x4 x5 S = some X) : vV Γ tMd_table (mQ Γ 0 0 0 (some (.int X.1)) X.2) S 0 0 0 [(0, .ref x0), (1, .int x1), (2, .int x2), (3, .int x3), (4, .int x4), (5, .int x5)] [] := by
  unfold fMd_table at h
  refine v_iload_n (pc := 0) (show decode (tC tMd_table) 0 = .ok (.iload_n 1, 1) by decide +kernel) 1 rfl rfl ?_
  refine v_aload_n (pc := 1) (show decode (tC tMd_table) 1 = .ok (.aload_n 0, 1) by decide +kernel) 0 rfl rfl ?_
  obtain ⟨v1, e2, h⟩ := ob h
  refine v_getI (pc := 2) oF_Md_186 (by decide) e2 (show decode (tC tMd_table) 2 = .ok (.getfield 186, 3) by decide +kernel) ?_
  obtain ⟨r4, S5, e3, h⟩ := ob2 h
  refine v_call (pc := 5) (v := (some (.int r4))) (y := yMd_in) (θ' := tMd_in) (rm := rMd_in) (av := [.int x1, .int v1]) (st := []) (cMd_in (l := gl Γ) hl e3) kMd_in iMd_in (iv_static (y := yMd_in) (θ' := tMd_in) (n := 2) (As := [.int x1, .int v1]) kMd_in (gT_in 1437 (by decide +kernel) rfl) sMd_in iMd_in mMd_in rfl (show decode (tC tMd_table) 5 = .ok (.invokestatic 241, 3) by decide +kernel)) ⟨by rw [hR]; decide, by rw [hR]; decide, by rw [hR]; decide, by rw [hR]; decide⟩ (Nat.le_of_ble_eq_true rfl) ?_
  refine v_if_eq (pc := 8) 73 (show decode (tC tMd_table) 8 = .ok (.ifCond .eq 65, 3) by decide +kernel) (by decide) (fun c => ?_) (fun c => ?_)
  · replace h := ite_t c h
    exact wMd_table_73 hR hl  x0 x1 x2 x3 x4 x5 S5 h
  · replace h := ite_f c h
    refine v_iload_n (pc := 11) (show decode (tC tMd_table) 11 = .ok (.iload_n 2, 1) by decide +kernel) 2 rfl rfl ?_
    refine v_iconst (pc := 12) (v := (-1)) (show decode (tC tMd_table) 12 = .ok (.iconst (-1), 1) by decide +kernel) (by decide) ?_
    refine v_icmp_eq (pc := 13) 27 (show decode (tC tMd_table) 13 = .ok (.if_icmp .eq 14, 3) by decide +kernel) (by decide) (fun c => ?_) (fun c => ?_)
    · replace h := ite_t c h
      exact wMd_table_27 hR hl  x0 x1 x2 x3 x4 x5 S5 h
    · replace h := ite_f c h
      refine v_iload_n (pc := 16) (show decode (tC tMd_table) 16 = .ok (.iload_n 2, 1) by decide +kernel) 2 rfl rfl ?_
      refine v_aload_n (pc := 17) (show decode (tC tMd_table) 17 = .ok (.aload_n 0, 1) by decide +kernel) 0 rfl rfl ?_
      obtain ⟨v6, e7, h⟩ := ob h
      refine v_getI (pc := 18) oF_Md_186 (by decide) e7 (show decode (tC tMd_table) 18 = .ok (.getfield 186, 3) by decide +kernel) ?_
      obtain ⟨r9, S10, e8, h⟩ := ob2 h
      refine v_call (pc := 21) (v := (some (.int r9))) (y := yMd_in) (θ' := tMd_in) (rm := rMd_in) (av := [.int x2, .int v6]) (st := []) (cMd_in (l := gl Γ) hl e8) kMd_in iMd_in (iv_static (y := yMd_in) (θ' := tMd_in) (n := 2) (As := [.int x2, .int v6]) kMd_in (gT_in 1437 (by decide +kernel) rfl) sMd_in iMd_in mMd_in rfl (show decode (tC tMd_table) 21 = .ok (.invokestatic 241, 3) by decide +kernel)) ⟨by rw [hR]; decide, by rw [hR]; decide, by rw [hR]; decide, by rw [hR]; decide⟩ (Nat.le_of_ble_eq_true rfl) ?_
      refine v_if_eq (pc := 24) 73 (show decode (tC tMd_table) 24 = .ok (.ifCond .eq 49, 3) by decide +kernel) (by decide) (fun c => ?_) (fun c => ?_)
      · replace h := ite_t c h
        exact wMd_table_73 hR hl  x0 x1 x2 x3 x4 x5 S10 h
      · replace h := ite_f c h
        exact wMd_table_27 hR hl  x0 x1 x2 x3 x4 x5 S10 h
theorem cMd_table {l : Launch} (hl : l.flags = pinnedFlags ++ [noTraceFlag]) {D : va_G} {dA : Nat → ClassId} {B : Nat} {x0 : Nat} {x1 : Int32} {x2 : Int32} {x3 : Int32} {x4 : Int32} {x5 : Int32} {S : Sx} {X : Int32 × Sx} (h : fMd_table x0 x1 x2 x3 x4 x5 S = some X) : Mx l yMd_table tMd_table rMd_table 0 0 D dA B S [.ref x0, .int x1, .int x2, .int x3, .int x4, .int x5] 0 (some (.int X.1)) X.2 :=
  mx_of hl (by decide) rfl rfl (Nat.le_of_ble_eq_true rfl) (fun Γ e1 e2 e3 e4 e5 => by subst e1; subst e3; subst e4; subst e5; exact wMd_table e2 hl x0 x1 x2 x3 x4 x5 S h)
/-! MatchPipeModel.apply(I)I -/
def yMd_apply : MethodName := ⟨"MatchPipeModel", "apply", "(I)I"⟩
def tMd_apply : tM := (prog_14_method_13_code, "MatchPipeModel", 2, "apply", some .int, [])
def rMd_apply : Room := { frames := 1, cells := 0, slots := 0, locals := 21 }
theorem kMd_apply : cOf yMd_apply tMd_apply ∈ gT := gT_in 1467 (by decide +kernel) rfl
theorem iMd_apply : Cond.initialized yMd_apply.cls ∈ gT := gT_in 68 (by decide +kernel) rfl
theorem mMd_apply : okM yMd_apply 1 := ⟨by decide, by decide, by unfold nPar; decide +kernel⟩
theorem nMd_apply : Cond.instanceMethod yMd_apply ∈ gT := gT_in 1465 (by decide +kernel) rfl
theorem lMd_apply : Cond.selects "MatchPipeModel" yMd_apply yMd_apply ∈ gT := gT_in 1466 (by decide +kernel) rfl
def fMd_apply_37  (x0 : Nat) (x1 : Int32) (z0 : Int32) (z1 : Nat) (S : Sx) : Option (Int32 × Sx) :=
    (pI S 12 0 z1 z0).bind fun S1 =>
    (gI S1 12 0 x0).bind fun v3 =>
    if v3 ≤ 0 then
    ((gX S1 12 27 x0).bind fun v5 =>
    (gI S1 12 5 x0).bind fun v7 =>
    (qI S1 v5 v7 x1).bind fun S9 =>
    (gI S9 12 5 x0).bind fun v11 =>
    (pI S9 12 5 x0 (v11 + 1)).bind fun S13 =>
    (gI S13 12 5 x0).bind fun v15 =>
    some (v15 - 1, S13))
    else
    (some (0, S1))
set_option maxRecDepth 100000 in
set_option maxHeartbeats 4000000 in
theorem wMd_apply_37 {Γ : vG} (hR : gR Γ = rMd_apply) (hl : (gl Γ).flags = pinnedFlags ++ [noTraceFlag]) {X : Int32 × Sx}  : ∀ (x0 : Nat) (x1 : Int32) (z0 : Int32) (z1 : Nat) (S : Sx), fMd_apply_37  x0 x1 z0 z1 S = some X → vV Γ tMd_apply (mQ Γ 0 0 0 (some (.int X.1)) X.2) S 0 0 37 [(0, .ref x0), (1, .int x1)] [.int z0, .ref z1] := by
  intro x0 x1 z0 z1 S h
  unfold fMd_apply_37 at h
  obtain ⟨S1, e2, h⟩ := ob h
  refine v_putI (pc := 37) oF_Md_183 (fin_ok (kd := 12) (k := 0) (by decide +kernel)) e2 (show decode (tC tMd_apply) 37 = .ok (.putfield 183, 3) by decide +kernel) ?_
  refine v_aload_n (pc := 40) (show decode (tC tMd_apply) 40 = .ok (.aload_n 0, 1) by decide +kernel) 0 rfl rfl ?_
  obtain ⟨v3, e4, h⟩ := ob h
  refine v_getI (pc := 41) oF_Md_183 (by decide) e4 (show decode (tC tMd_apply) 41 = .ok (.getfield 183, 3) by decide +kernel) ?_
  refine v_if_le (pc := 44) 49 (show decode (tC tMd_apply) 44 = .ok (.ifCond .le 5, 3) by decide +kernel) (by decide) (fun c => ?_) (fun c => ?_)
  · replace h := ite_t c h
    refine v_aload_n (pc := 49) (show decode (tC tMd_apply) 49 = .ok (.aload_n 0, 1) by decide +kernel) 0 rfl rfl ?_
    obtain ⟨v5, e6, h⟩ := ob h
    refine v_getX (pc := 50) oF_Md_67 e6 (show decode (tC tMd_apply) 50 = .ok (.getfield 67, 3) by decide +kernel) ?_
    refine v_aload_n (pc := 53) (show decode (tC tMd_apply) 53 = .ok (.aload_n 0, 1) by decide +kernel) 0 rfl rfl ?_
    obtain ⟨v7, e8, h⟩ := ob h
    refine v_getI (pc := 54) oF_Md_198 (by decide) e8 (show decode (tC tMd_apply) 54 = .ok (.getfield 198, 3) by decide +kernel) ?_
    refine v_iload_n (pc := 57) (show decode (tC tMd_apply) 57 = .ok (.iload_n 1, 1) by decide +kernel) 1 rfl rfl ?_
    obtain ⟨S9, e10, h⟩ := ob h
    refine v_iast (pc := 58) e10 (show decode (tC tMd_apply) 58 = .ok (.iastore, 1) by decide +kernel) ?_
    refine v_aload_n (pc := 59) (show decode (tC tMd_apply) 59 = .ok (.aload_n 0, 1) by decide +kernel) 0 rfl rfl ?_
    refine v_dup (pc := 60) (show decode (tC tMd_apply) 60 = .ok (.dup, 1) by decide +kernel) rfl ?_
    obtain ⟨v11, e12, h⟩ := ob h
    refine v_getI (pc := 61) oF_Md_198 (by decide) e12 (show decode (tC tMd_apply) 61 = .ok (.getfield 198, 3) by decide +kernel) ?_
    refine v_iconst (pc := 64) (v := 1) (show decode (tC tMd_apply) 64 = .ok (.iconst 1, 1) by decide +kernel) (by decide) ?_
    refine v_iadd (pc := 65) (show decode (tC tMd_apply) 65 = .ok (.iadd, 1) by decide +kernel) ?_
    obtain ⟨S13, e14, h⟩ := ob h
    refine v_putI (pc := 66) oF_Md_198 (fin_ok (kd := 12) (k := 5) (by decide +kernel)) e14 (show decode (tC tMd_apply) 66 = .ok (.putfield 198, 3) by decide +kernel) ?_
    refine v_aload_n (pc := 69) (show decode (tC tMd_apply) 69 = .ok (.aload_n 0, 1) by decide +kernel) 0 rfl rfl ?_
    obtain ⟨v15, e16, h⟩ := ob h
    refine v_getI (pc := 70) oF_Md_198 (by decide) e16 (show decode (tC tMd_apply) 70 = .ok (.getfield 198, 3) by decide +kernel) ?_
    refine v_iconst (pc := 73) (v := 1) (show decode (tC tMd_apply) 73 = .ok (.iconst 1, 1) by decide +kernel) (by decide) ?_
    refine v_isub (pc := 74) (show decode (tC tMd_apply) 74 = .ok (.isub, 1) by decide +kernel) ?_
    obtain rfl := Option.some.inj h
    refine v_wide (ce2 := 0) (sl2 := 0) (by decide) (by decide) ?_
    exact v_iret (pc := 75) rfl (show decode (tC tMd_apply) 75 = .ok (.ireturn, 1) by decide +kernel)
  · replace h := ite_f c h
    refine v_iconst (pc := 47) (v := 0) (show decode (tC tMd_apply) 47 = .ok (.iconst 0, 1) by decide +kernel) (by decide) ?_
    obtain rfl := Option.some.inj h
    refine v_wide (ce2 := 0) (sl2 := 0) (by decide) (by decide) ?_
    exact v_iret (pc := 48) rfl (show decode (tC tMd_apply) 48 = .ok (.ireturn, 1) by decide +kernel)
def fMd_apply_32  (x0 : Nat) (x1 : Int32) (z0 : Nat) (S : Sx) : Option (Int32 × Sx) :=
    fMd_apply_37  x0 x1 2 z0 S
set_option maxRecDepth 100000 in
set_option maxHeartbeats 4000000 in
theorem wMd_apply_32 {Γ : vG} (hR : gR Γ = rMd_apply) (hl : (gl Γ).flags = pinnedFlags ++ [noTraceFlag]) {X : Int32 × Sx}  : ∀ (x0 : Nat) (x1 : Int32) (z0 : Nat) (S : Sx), fMd_apply_32  x0 x1 z0 S = some X → vV Γ tMd_apply (mQ Γ 0 0 0 (some (.int X.1)) X.2) S 0 0 32 [(0, .ref x0), (1, .int x1)] [.ref z0] := by
  intro x0 x1 z0 S h
  unfold fMd_apply_32 at h
  refine v_iconst (pc := 32) (v := 2) (show decode (tC tMd_apply) 32 = .ok (.iconst 2, 1) by decide +kernel) (by decide) ?_
  refine v_goto (pc := 33) 37 (show decode (tC tMd_apply) 33 = .ok (.goto 4, 3) by decide +kernel) (by decide) ?_
  exact wMd_apply_37 hR hl  x0 x1 2 z0 S h
def fMd_apply (x0 : Nat) (x1 : Int32) (S : Sx) : Option (Int32 × Sx) :=
    (gI S 12 4 x0).bind fun v1 =>
    bd2 (fMd_in x1 v1 S) fun r4 S5 =>
    if r4 = 0 then
    (fMd_apply_37  x0 x1 1 x0 S5)
    else
    ((gI S5 12 5 x0).bind fun v6 =>
    if v6 = 16 then
    (fMd_apply_32  x0 x1 x0 S5)
    else
    ((gI S5 12 7 x0).bind fun v8 =>
    if v8 = 0 then
    (fMd_apply_37  x0 x1 0 x0 S5)
    else
    (fMd_apply_32  x0 x1 x0 S5)))
set_option maxRecDepth 100000 in
set_option maxHeartbeats 4000000 in
theorem wMd_apply {Γ : vG} (hR : gR Γ = rMd_apply) (hl : (gl Γ).flags = pinnedFlags ++ [noTraceFlag]) (x0 : Nat) (x1 : Int32) (S : Sx) {X : Int32 × Sx} (h : fMd_apply x0 x1 S = some X) : vV Γ tMd_apply (mQ Γ 0 0 0 (some (.int X.1)) X.2) S 0 0 0 [(0, .ref x0), (1, .int x1)] [] := by
  unfold fMd_apply at h
  refine v_aload_n (pc := 0) (show decode (tC tMd_apply) 0 = .ok (.aload_n 0, 1) by decide +kernel) 0 rfl rfl ?_
  refine v_iload_n (pc := 1) (show decode (tC tMd_apply) 1 = .ok (.iload_n 1, 1) by decide +kernel) 1 rfl rfl ?_
  refine v_aload_n (pc := 2) (show decode (tC tMd_apply) 2 = .ok (.aload_n 0, 1) by decide +kernel) 0 rfl rfl ?_
  obtain ⟨v1, e2, h⟩ := ob h
  refine v_getI (pc := 3) oF_Md_195 (by decide) e2 (show decode (tC tMd_apply) 3 = .ok (.getfield 195, 3) by decide +kernel) ?_
  obtain ⟨r4, S5, e3, h⟩ := ob2 h
  refine v_call (pc := 6) (v := (some (.int r4))) (y := yMd_in) (θ' := tMd_in) (rm := rMd_in) (av := [.int x1, .int v1]) (st := [.ref x0]) (cMd_in (l := gl Γ) hl e3) kMd_in iMd_in (iv_static (y := yMd_in) (θ' := tMd_in) (n := 2) (As := [.int x1, .int v1]) kMd_in (gT_in 1437 (by decide +kernel) rfl) sMd_in iMd_in mMd_in rfl (show decode (tC tMd_apply) 6 = .ok (.invokestatic 241, 3) by decide +kernel)) ⟨by rw [hR]; decide, by rw [hR]; decide, by rw [hR]; decide, by rw [hR]; decide⟩ (Nat.le_of_ble_eq_true rfl) ?_
  refine v_if_ne (pc := 9) 16 (show decode (tC tMd_apply) 9 = .ok (.ifCond .ne 7, 3) by decide +kernel) (by decide) (fun c => ?_) (fun c => ?_)
  · replace h := ite_f c h
    refine v_aload_n (pc := 16) (show decode (tC tMd_apply) 16 = .ok (.aload_n 0, 1) by decide +kernel) 0 rfl rfl ?_
    obtain ⟨v6, e7, h⟩ := ob h
    refine v_getI (pc := 17) oF_Md_198 (by decide) e7 (show decode (tC tMd_apply) 17 = .ok (.getfield 198, 3) by decide +kernel) ?_
    refine v_bipush (pc := 20) (v := 16) (show decode (tC tMd_apply) 20 = .ok (.bipush 16, 2) by decide +kernel) (by decide) ?_
    refine v_icmp_eq (pc := 22) 32 (show decode (tC tMd_apply) 22 = .ok (.if_icmp .eq 10, 3) by decide +kernel) (by decide) (fun c => ?_) (fun c => ?_)
    · replace h := ite_t c h
      exact wMd_apply_32 hR hl  x0 x1 x0 S5 h
    · replace h := ite_f c h
      refine v_aload_n (pc := 25) (show decode (tC tMd_apply) 25 = .ok (.aload_n 0, 1) by decide +kernel) 0 rfl rfl ?_
      obtain ⟨v8, e9, h⟩ := ob h
      refine v_getI (pc := 26) oF_Md_204 (by decide) e9 (show decode (tC tMd_apply) 26 = .ok (.getfield 204, 3) by decide +kernel) ?_
      refine v_if_eq (pc := 29) 36 (show decode (tC tMd_apply) 29 = .ok (.ifCond .eq 7, 3) by decide +kernel) (by decide) (fun c => ?_) (fun c => ?_)
      · replace h := ite_t c h
        refine v_iconst (pc := 36) (v := 0) (show decode (tC tMd_apply) 36 = .ok (.iconst 0, 1) by decide +kernel) (by decide) ?_
        exact wMd_apply_37 hR hl  x0 x1 0 x0 S5 h
      · replace h := ite_f c h
        exact wMd_apply_32 hR hl  x0 x1 x0 S5 h
  · replace h := ite_t c h
    refine v_iconst (pc := 12) (v := 1) (show decode (tC tMd_apply) 12 = .ok (.iconst 1, 1) by decide +kernel) (by decide) ?_
    refine v_goto (pc := 13) 37 (show decode (tC tMd_apply) 13 = .ok (.goto 24, 3) by decide +kernel) (by decide) ?_
    exact wMd_apply_37 hR hl  x0 x1 1 x0 S5 h
theorem cMd_apply {l : Launch} (hl : l.flags = pinnedFlags ++ [noTraceFlag]) {D : va_G} {dA : Nat → ClassId} {B : Nat} {x0 : Nat} {x1 : Int32} {S : Sx} {X : Int32 × Sx} (h : fMd_apply x0 x1 S = some X) : Mx l yMd_apply tMd_apply rMd_apply 0 0 D dA B S [.ref x0, .int x1] 0 (some (.int X.1)) X.2 :=
  mx_of hl (by decide) rfl rfl (Nat.le_of_ble_eq_true rfl) (fun Γ e1 e2 e3 e4 e5 => by subst e1; subst e3; subst e4; subst e5; exact wMd_apply e2 hl x0 x1 S h)
/-! MatchPipeModel.test(IIII)I -/
def yMd_test : MethodName := ⟨"MatchPipeModel", "test", "(IIII)I"⟩
def tMd_test : tM := (prog_14_method_14_code, "MatchPipeModel", 5, "test", some .int, [])
def rMd_test : Room := { frames := 1, cells := 0, slots := 0, locals := 21 }
theorem kMd_test : cOf yMd_test tMd_test ∈ gT := gT_in 1471 (by decide +kernel) rfl
theorem iMd_test : Cond.initialized yMd_test.cls ∈ gT := gT_in 68 (by decide +kernel) rfl
theorem mMd_test : okM yMd_test 4 := ⟨by decide, by decide, by unfold nPar; decide +kernel⟩
theorem nMd_test : Cond.instanceMethod yMd_test ∈ gT := gT_in 1469 (by decide +kernel) rfl
theorem lMd_test : Cond.selects "MatchPipeModel" yMd_test yMd_test ∈ gT := gT_in 1470 (by decide +kernel) rfl
def fMd_test_49  (x0 : Nat) (x1 : Int32) (x2 : Int32) (x3 : Int32) (x4 : Int32) (z0 : Int32) (z1 : Nat) (S : Sx) : Option (Int32 × Sx) :=
    (pI S 12 0 z1 z0).bind fun S1 =>
    (gI S1 12 0 x0).bind fun v3 =>
    if v3 ≤ 0 then
    ((gX S1 12 27 x0).bind fun v5 =>
    (gI S1 12 5 x0).bind fun v7 =>
    (qI S1 v5 v7 (-1)).bind fun S9 =>
    (gX S9 12 28 x0).bind fun v11 =>
    (gI S9 12 5 x0).bind fun v13 =>
    (qI S9 v11 v13 x1).bind fun S15 =>
    (gX S15 12 29 x0).bind fun v17 =>
    (gI S15 12 5 x0).bind fun v19 =>
    (qI S15 v17 v19 x2).bind fun S21 =>
    (gX S21 12 30 x0).bind fun v23 =>
    (gI S21 12 5 x0).bind fun v25 =>
    (qI S21 v23 v25 x3).bind fun S27 =>
    (gX S27 12 31 x0).bind fun v29 =>
    (gI S27 12 5 x0).bind fun v31 =>
    (qI S27 v29 v31 x4).bind fun S33 =>
    (gI S33 12 5 x0).bind fun v35 =>
    (pI S33 12 5 x0 (v35 + 1)).bind fun S37 =>
    (gI S37 12 5 x0).bind fun v39 =>
    some (v39 - 1, S37))
    else
    (some (0, S1))
set_option maxRecDepth 100000 in
set_option maxHeartbeats 4000000 in
theorem wMd_test_49 {Γ : vG} (hR : gR Γ = rMd_test) (hl : (gl Γ).flags = pinnedFlags ++ [noTraceFlag]) {X : Int32 × Sx}  : ∀ (x0 : Nat) (x1 : Int32) (x2 : Int32) (x3 : Int32) (x4 : Int32) (z0 : Int32) (z1 : Nat) (S : Sx), fMd_test_49  x0 x1 x2 x3 x4 z0 z1 S = some X → vV Γ tMd_test (mQ Γ 0 0 0 (some (.int X.1)) X.2) S 0 0 49 [(0, .ref x0), (1, .int x1), (2, .int x2), (3, .int x3), (4, .int x4)] [.int z0, .ref z1] := by
  intro x0 x1 x2 x3 x4 z0 z1 S h
  unfold fMd_test_49 at h
  obtain ⟨S1, e2, h⟩ := ob h
  refine v_putI (pc := 49) oF_Md_183 (fin_ok (kd := 12) (k := 0) (by decide +kernel)) e2 (show decode (tC tMd_test) 49 = .ok (.putfield 183, 3) by decide +kernel) ?_
  refine v_aload_n (pc := 52) (show decode (tC tMd_test) 52 = .ok (.aload_n 0, 1) by decide +kernel) 0 rfl rfl ?_
  obtain ⟨v3, e4, h⟩ := ob h
  refine v_getI (pc := 53) oF_Md_183 (by decide) e4 (show decode (tC tMd_test) 53 = .ok (.getfield 183, 3) by decide +kernel) ?_
  refine v_if_le (pc := 56) 61 (show decode (tC tMd_test) 56 = .ok (.ifCond .le 5, 3) by decide +kernel) (by decide) (fun c => ?_) (fun c => ?_)
  · replace h := ite_t c h
    refine v_aload_n (pc := 61) (show decode (tC tMd_test) 61 = .ok (.aload_n 0, 1) by decide +kernel) 0 rfl rfl ?_
    obtain ⟨v5, e6, h⟩ := ob h
    refine v_getX (pc := 62) oF_Md_67 e6 (show decode (tC tMd_test) 62 = .ok (.getfield 67, 3) by decide +kernel) ?_
    refine v_aload_n (pc := 65) (show decode (tC tMd_test) 65 = .ok (.aload_n 0, 1) by decide +kernel) 0 rfl rfl ?_
    obtain ⟨v7, e8, h⟩ := ob h
    refine v_getI (pc := 66) oF_Md_198 (by decide) e8 (show decode (tC tMd_test) 66 = .ok (.getfield 198, 3) by decide +kernel) ?_
    refine v_iconst (pc := 69) (v := (-1)) (show decode (tC tMd_test) 69 = .ok (.iconst (-1), 1) by decide +kernel) (by decide) ?_
    obtain ⟨S9, e10, h⟩ := ob h
    refine v_iast (pc := 70) e10 (show decode (tC tMd_test) 70 = .ok (.iastore, 1) by decide +kernel) ?_
    refine v_aload_n (pc := 71) (show decode (tC tMd_test) 71 = .ok (.aload_n 0, 1) by decide +kernel) 0 rfl rfl ?_
    obtain ⟨v11, e12, h⟩ := ob h
    refine v_getX (pc := 72) oF_Md_70 e12 (show decode (tC tMd_test) 72 = .ok (.getfield 70, 3) by decide +kernel) ?_
    refine v_aload_n (pc := 75) (show decode (tC tMd_test) 75 = .ok (.aload_n 0, 1) by decide +kernel) 0 rfl rfl ?_
    obtain ⟨v13, e14, h⟩ := ob h
    refine v_getI (pc := 76) oF_Md_198 (by decide) e14 (show decode (tC tMd_test) 76 = .ok (.getfield 198, 3) by decide +kernel) ?_
    refine v_iload_n (pc := 79) (show decode (tC tMd_test) 79 = .ok (.iload_n 1, 1) by decide +kernel) 1 rfl rfl ?_
    obtain ⟨S15, e16, h⟩ := ob h
    refine v_iast (pc := 80) e16 (show decode (tC tMd_test) 80 = .ok (.iastore, 1) by decide +kernel) ?_
    refine v_aload_n (pc := 81) (show decode (tC tMd_test) 81 = .ok (.aload_n 0, 1) by decide +kernel) 0 rfl rfl ?_
    obtain ⟨v17, e18, h⟩ := ob h
    refine v_getX (pc := 82) oF_Md_73 e18 (show decode (tC tMd_test) 82 = .ok (.getfield 73, 3) by decide +kernel) ?_
    refine v_aload_n (pc := 85) (show decode (tC tMd_test) 85 = .ok (.aload_n 0, 1) by decide +kernel) 0 rfl rfl ?_
    obtain ⟨v19, e20, h⟩ := ob h
    refine v_getI (pc := 86) oF_Md_198 (by decide) e20 (show decode (tC tMd_test) 86 = .ok (.getfield 198, 3) by decide +kernel) ?_
    refine v_iload_n (pc := 89) (show decode (tC tMd_test) 89 = .ok (.iload_n 2, 1) by decide +kernel) 2 rfl rfl ?_
    obtain ⟨S21, e22, h⟩ := ob h
    refine v_iast (pc := 90) e22 (show decode (tC tMd_test) 90 = .ok (.iastore, 1) by decide +kernel) ?_
    refine v_aload_n (pc := 91) (show decode (tC tMd_test) 91 = .ok (.aload_n 0, 1) by decide +kernel) 0 rfl rfl ?_
    obtain ⟨v23, e24, h⟩ := ob h
    refine v_getX (pc := 92) oF_Md_76 e24 (show decode (tC tMd_test) 92 = .ok (.getfield 76, 3) by decide +kernel) ?_
    refine v_aload_n (pc := 95) (show decode (tC tMd_test) 95 = .ok (.aload_n 0, 1) by decide +kernel) 0 rfl rfl ?_
    obtain ⟨v25, e26, h⟩ := ob h
    refine v_getI (pc := 96) oF_Md_198 (by decide) e26 (show decode (tC tMd_test) 96 = .ok (.getfield 198, 3) by decide +kernel) ?_
    refine v_iload_n (pc := 99) (show decode (tC tMd_test) 99 = .ok (.iload_n 3, 1) by decide +kernel) 3 rfl rfl ?_
    obtain ⟨S27, e28, h⟩ := ob h
    refine v_iast (pc := 100) e28 (show decode (tC tMd_test) 100 = .ok (.iastore, 1) by decide +kernel) ?_
    refine v_aload_n (pc := 101) (show decode (tC tMd_test) 101 = .ok (.aload_n 0, 1) by decide +kernel) 0 rfl rfl ?_
    obtain ⟨v29, e30, h⟩ := ob h
    refine v_getX (pc := 102) oF_Md_79 e30 (show decode (tC tMd_test) 102 = .ok (.getfield 79, 3) by decide +kernel) ?_
    refine v_aload_n (pc := 105) (show decode (tC tMd_test) 105 = .ok (.aload_n 0, 1) by decide +kernel) 0 rfl rfl ?_
    obtain ⟨v31, e32, h⟩ := ob h
    refine v_getI (pc := 106) oF_Md_198 (by decide) e32 (show decode (tC tMd_test) 106 = .ok (.getfield 198, 3) by decide +kernel) ?_
    refine v_iload (pc := 109) (show decode (tC tMd_test) 109 = .ok (.iload 4, 2) by decide +kernel) 4 rfl ?_
    obtain ⟨S33, e34, h⟩ := ob h
    refine v_iast (pc := 111) e34 (show decode (tC tMd_test) 111 = .ok (.iastore, 1) by decide +kernel) ?_
    refine v_aload_n (pc := 112) (show decode (tC tMd_test) 112 = .ok (.aload_n 0, 1) by decide +kernel) 0 rfl rfl ?_
    refine v_dup (pc := 113) (show decode (tC tMd_test) 113 = .ok (.dup, 1) by decide +kernel) rfl ?_
    obtain ⟨v35, e36, h⟩ := ob h
    refine v_getI (pc := 114) oF_Md_198 (by decide) e36 (show decode (tC tMd_test) 114 = .ok (.getfield 198, 3) by decide +kernel) ?_
    refine v_iconst (pc := 117) (v := 1) (show decode (tC tMd_test) 117 = .ok (.iconst 1, 1) by decide +kernel) (by decide) ?_
    refine v_iadd (pc := 118) (show decode (tC tMd_test) 118 = .ok (.iadd, 1) by decide +kernel) ?_
    obtain ⟨S37, e38, h⟩ := ob h
    refine v_putI (pc := 119) oF_Md_198 (fin_ok (kd := 12) (k := 5) (by decide +kernel)) e38 (show decode (tC tMd_test) 119 = .ok (.putfield 198, 3) by decide +kernel) ?_
    refine v_aload_n (pc := 122) (show decode (tC tMd_test) 122 = .ok (.aload_n 0, 1) by decide +kernel) 0 rfl rfl ?_
    obtain ⟨v39, e40, h⟩ := ob h
    refine v_getI (pc := 123) oF_Md_198 (by decide) e40 (show decode (tC tMd_test) 123 = .ok (.getfield 198, 3) by decide +kernel) ?_
    refine v_iconst (pc := 126) (v := 1) (show decode (tC tMd_test) 126 = .ok (.iconst 1, 1) by decide +kernel) (by decide) ?_
    refine v_isub (pc := 127) (show decode (tC tMd_test) 127 = .ok (.isub, 1) by decide +kernel) ?_
    obtain rfl := Option.some.inj h
    refine v_wide (ce2 := 0) (sl2 := 0) (by decide) (by decide) ?_
    exact v_iret (pc := 128) rfl (show decode (tC tMd_test) 128 = .ok (.ireturn, 1) by decide +kernel)
  · replace h := ite_f c h
    refine v_iconst (pc := 59) (v := 0) (show decode (tC tMd_test) 59 = .ok (.iconst 0, 1) by decide +kernel) (by decide) ?_
    obtain rfl := Option.some.inj h
    refine v_wide (ce2 := 0) (sl2 := 0) (by decide) (by decide) ?_
    exact v_iret (pc := 60) rfl (show decode (tC tMd_test) 60 = .ok (.ireturn, 1) by decide +kernel)
def fMd_test_44  (x0 : Nat) (x1 : Int32) (x2 : Int32) (x3 : Int32) (x4 : Int32) (z0 : Nat) (S : Sx) : Option (Int32 × Sx) :=
    fMd_test_49  x0 x1 x2 x3 x4 3 z0 S
set_option maxRecDepth 100000 in
set_option maxHeartbeats 4000000 in
theorem wMd_test_44 {Γ : vG} (hR : gR Γ = rMd_test) (hl : (gl Γ).flags = pinnedFlags ++ [noTraceFlag]) {X : Int32 × Sx}  : ∀ (x0 : Nat) (x1 : Int32) (x2 : Int32) (x3 : Int32) (x4 : Int32) (z0 : Nat) (S : Sx), fMd_test_44  x0 x1 x2 x3 x4 z0 S = some X → vV Γ tMd_test (mQ Γ 0 0 0 (some (.int X.1)) X.2) S 0 0 44 [(0, .ref x0), (1, .int x1), (2, .int x2), (3, .int x3), (4, .int x4)] [.ref z0] := by
  intro x0 x1 x2 x3 x4 z0 S h
  unfold fMd_test_44 at h
  refine v_iconst (pc := 44) (v := 3) (show decode (tC tMd_test) 44 = .ok (.iconst 3, 1) by decide +kernel) (by decide) ?_
  refine v_goto (pc := 45) 49 (show decode (tC tMd_test) 45 = .ok (.goto 4, 3) by decide +kernel) (by decide) ?_
  exact wMd_test_49 hR hl  x0 x1 x2 x3 x4 3 z0 S h
def fMd_test (x0 : Nat) (x1 : Int32) (x2 : Int32) (x3 : Int32) (x4 : Int32) (S : Sx) : Option (Int32 × Sx) :=
    (gI S 12 1 x0).bind fun v1 =>
    bd2 (fMd_in x1 v1 S) fun r4 S5 =>
    if r4 = 0 then
    (fMd_test_49  x0 x1 x2 x3 x4 1 x0 S5)
    else
    (bd2 (fMd_in x2 4 S5) fun r7 S8 =>
    if r7 = 0 then
    (fMd_test_49  x0 x1 x2 x3 x4 2 x0 S8)
    else
    ((gI S8 12 5 x0).bind fun v9 =>
    if v9 = 16 then
    (fMd_test_44  x0 x1 x2 x3 x4 x0 S8)
    else
    ((gI S8 12 7 x0).bind fun v11 =>
    if v11 = 0 then
    (fMd_test_49  x0 x1 x2 x3 x4 0 x0 S8)
    else
    (fMd_test_44  x0 x1 x2 x3 x4 x0 S8))))
set_option maxRecDepth 100000 in
set_option maxHeartbeats 4000000 in
theorem wMd_test {Γ : vG} (hR : gR Γ = rMd_test) (hl : (gl Γ).flags = pinnedFlags ++ [noTraceFlag]) (x0 : Nat) (x1 : Int32) (x2 : Int32) (x3 : Int32) (x4 : Int32) (S : Sx) {X : Int32 × Sx} (h : fMd_test x0 x1 x2 x3 x4 S = some X) : vV Γ tMd_test (mQ Γ 0 0 0 (some (.int X.1)) X.2) S 0 0 0 [(0, .ref x0), (1, .int x1), (2, .int x2), (3, .int x3), (4, .int x4)] [] := by
  unfold fMd_test at h
  refine v_aload_n (pc := 0) (show decode (tC tMd_test) 0 = .ok (.aload_n 0, 1) by decide +kernel) 0 rfl rfl ?_
  refine v_iload_n (pc := 1) (show decode (tC tMd_test) 1 = .ok (.iload_n 1, 1) by decide +kernel) 1 rfl rfl ?_
  refine v_aload_n (pc := 2) (show decode (tC tMd_test) 2 = .ok (.aload_n 0, 1) by decide +kernel) 0 rfl rfl ?_
  obtain ⟨v1, e2, h⟩ := ob h
  refine v_getI (pc := 3) oF_Md_186 (by decide) e2 (show decode (tC tMd_test) 3 = .ok (.getfield 186, 3) by decide +kernel) ?_
  obtain ⟨r4, S5, e3, h⟩ := ob2 h
  refine v_call (pc := 6) (v := (some (.int r4))) (y := yMd_in) (θ' := tMd_in) (rm := rMd_in) (av := [.int x1, .int v1]) (st := [.ref x0]) (cMd_in (l := gl Γ) hl e3) kMd_in iMd_in (iv_static (y := yMd_in) (θ' := tMd_in) (n := 2) (As := [.int x1, .int v1]) kMd_in (gT_in 1437 (by decide +kernel) rfl) sMd_in iMd_in mMd_in rfl (show decode (tC tMd_test) 6 = .ok (.invokestatic 241, 3) by decide +kernel)) ⟨by rw [hR]; decide, by rw [hR]; decide, by rw [hR]; decide, by rw [hR]; decide⟩ (Nat.le_of_ble_eq_true rfl) ?_
  refine v_if_ne (pc := 9) 16 (show decode (tC tMd_test) 9 = .ok (.ifCond .ne 7, 3) by decide +kernel) (by decide) (fun c => ?_) (fun c => ?_)
  · replace h := ite_f c h
    refine v_iload_n (pc := 16) (show decode (tC tMd_test) 16 = .ok (.iload_n 2, 1) by decide +kernel) 2 rfl rfl ?_
    refine v_iconst (pc := 17) (v := 4) (show decode (tC tMd_test) 17 = .ok (.iconst 4, 1) by decide +kernel) (by decide) ?_
    obtain ⟨r7, S8, e6, h⟩ := ob2 h
    refine v_call (pc := 18) (v := (some (.int r7))) (y := yMd_in) (θ' := tMd_in) (rm := rMd_in) (av := [.int x2, .int 4]) (st := [.ref x0]) (cMd_in (l := gl Γ) hl e6) kMd_in iMd_in (iv_static (y := yMd_in) (θ' := tMd_in) (n := 2) (As := [.int x2, .int 4]) kMd_in (gT_in 1437 (by decide +kernel) rfl) sMd_in iMd_in mMd_in rfl (show decode (tC tMd_test) 18 = .ok (.invokestatic 241, 3) by decide +kernel)) ⟨by rw [hR]; decide, by rw [hR]; decide, by rw [hR]; decide, by rw [hR]; decide⟩ (Nat.le_of_ble_eq_true rfl) ?_
    refine v_if_ne (pc := 21) 28 (show decode (tC tMd_test) 21 = .ok (.ifCond .ne 7, 3) by decide +kernel) (by decide) (fun c => ?_) (fun c => ?_)
    · replace h := ite_f c h
      refine v_aload_n (pc := 28) (show decode (tC tMd_test) 28 = .ok (.aload_n 0, 1) by decide +kernel) 0 rfl rfl ?_
      obtain ⟨v9, e10, h⟩ := ob h
      refine v_getI (pc := 29) oF_Md_198 (by decide) e10 (show decode (tC tMd_test) 29 = .ok (.getfield 198, 3) by decide +kernel) ?_
      refine v_bipush (pc := 32) (v := 16) (show decode (tC tMd_test) 32 = .ok (.bipush 16, 2) by decide +kernel) (by decide) ?_
      refine v_icmp_eq (pc := 34) 44 (show decode (tC tMd_test) 34 = .ok (.if_icmp .eq 10, 3) by decide +kernel) (by decide) (fun c => ?_) (fun c => ?_)
      · replace h := ite_t c h
        exact wMd_test_44 hR hl  x0 x1 x2 x3 x4 x0 S8 h
      · replace h := ite_f c h
        refine v_aload_n (pc := 37) (show decode (tC tMd_test) 37 = .ok (.aload_n 0, 1) by decide +kernel) 0 rfl rfl ?_
        obtain ⟨v11, e12, h⟩ := ob h
        refine v_getI (pc := 38) oF_Md_204 (by decide) e12 (show decode (tC tMd_test) 38 = .ok (.getfield 204, 3) by decide +kernel) ?_
        refine v_if_eq (pc := 41) 48 (show decode (tC tMd_test) 41 = .ok (.ifCond .eq 7, 3) by decide +kernel) (by decide) (fun c => ?_) (fun c => ?_)
        · replace h := ite_t c h
          refine v_iconst (pc := 48) (v := 0) (show decode (tC tMd_test) 48 = .ok (.iconst 0, 1) by decide +kernel) (by decide) ?_
          exact wMd_test_49 hR hl  x0 x1 x2 x3 x4 0 x0 S8 h
        · replace h := ite_f c h
          exact wMd_test_44 hR hl  x0 x1 x2 x3 x4 x0 S8 h
    · replace h := ite_t c h
      refine v_iconst (pc := 24) (v := 2) (show decode (tC tMd_test) 24 = .ok (.iconst 2, 1) by decide +kernel) (by decide) ?_
      refine v_goto (pc := 25) 49 (show decode (tC tMd_test) 25 = .ok (.goto 24, 3) by decide +kernel) (by decide) ?_
      exact wMd_test_49 hR hl  x0 x1 x2 x3 x4 2 x0 S8 h
  · replace h := ite_t c h
    refine v_iconst (pc := 12) (v := 1) (show decode (tC tMd_test) 12 = .ok (.iconst 1, 1) by decide +kernel) (by decide) ?_
    refine v_goto (pc := 13) 49 (show decode (tC tMd_test) 13 = .ok (.goto 36, 3) by decide +kernel) (by decide) ?_
    exact wMd_test_49 hR hl  x0 x1 x2 x3 x4 1 x0 S5 h
theorem cMd_test {l : Launch} (hl : l.flags = pinnedFlags ++ [noTraceFlag]) {D : va_G} {dA : Nat → ClassId} {B : Nat} {x0 : Nat} {x1 : Int32} {x2 : Int32} {x3 : Int32} {x4 : Int32} {S : Sx} {X : Int32 × Sx} (h : fMd_test x0 x1 x2 x3 x4 S = some X) : Mx l yMd_test tMd_test rMd_test 0 0 D dA B S [.ref x0, .int x1, .int x2, .int x3, .int x4] 0 (some (.int X.1)) X.2 :=
  mx_of hl (by decide) rfl rfl (Nat.le_of_ble_eq_true rfl) (fun Γ e1 e2 e3 e4 e5 => by subst e1; subst e3; subst e4; subst e5; exact wMd_test e2 hl x0 x1 x2 x3 x4 S h)
