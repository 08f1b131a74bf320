theorem oF_Md_92 : okF "MatchPipeModel" 92 12 36 1 := ⟨_, rfl, by decide, gT_in 1215 (by decide +kernel) rfl, rfl⟩
theorem oF_Md_95 : okF "MatchPipeModel" 95 12 37 1 := ⟨_, rfl, by decide, gT_in 1216 (by decide +kernel) rfl, rfl⟩
theorem oF_Md_98 : okF "MatchPipeModel" 98 12 38 1 := ⟨_, rfl, by decide, gT_in 1217 (by decide +kernel) rfl, rfl⟩
theorem oF_Md_101 : okF "MatchPipeModel" 101 12 39 1 := ⟨_, rfl, by decide, gT_in 1218 (by decide +kernel) rfl, rfl⟩
theorem oF_Md_104 : okF "MatchPipeModel" 104 12 40 1 := ⟨_, rfl, by decide, gT_in 1219 (by decide +kernel) rfl, rfl⟩
theorem oF_Md_107 : okF "MatchPipeModel" 107 12 41 1 := ⟨_, rfl, by decide, gT_in 1220 (by decide +kernel) rfl, rfl⟩
theorem oF_Md_110 : okF "MatchPipeModel" 110 12 42 1 := ⟨_, rfl, by decide, gT_in 1221 (by decide +kernel) rfl, rfl⟩
theorem oF_Md_113 : okF "MatchPipeModel" 113 12 43 1 := ⟨_, rfl, by decide, gT_in 1222 (by decide +kernel) rfl, rfl⟩
theorem oF_Md_122 : okF "MatchPipeModel" 122 12 46 1 := ⟨_, rfl, by decide, gT_in 1225 (by decide +kernel) rfl, rfl⟩
theorem oF_Md_125 : okF "MatchPipeModel" 125 12 57 1 := ⟨_, rfl, by decide, gT_in 1236 (by decide +kernel) rfl, rfl⟩
theorem oF_Md_128 : okF "MatchPipeModel" 128 12 58 1 := ⟨_, rfl, by decide, gT_in 1237 (by decide +kernel) rfl, rfl⟩
theorem oF_Md_131 : okF "MatchPipeModel" 131 12 59 1 := ⟨_, rfl, by decide, gT_in 1238 (by decide +kernel) rfl, rfl⟩
theorem oF_Md_134 : okF "MatchPipeModel" 134 12 60 1 := ⟨_, rfl, by decide, gT_in 1239 (by decide +kernel) rfl, rfl⟩
theorem oF_Md_137 : okF "MatchPipeModel" 137 12 61 1 := ⟨_, rfl, by decide, gT_in 1240 (by decide +kernel) rfl, rfl⟩
theorem oF_Md_140 : okF "MatchPipeModel" 140 12 62 1 := ⟨_, rfl, by decide, gT_in 1241 (by decide +kernel) rfl, rfl⟩
theorem oF_Md_143 : okF "MatchPipeModel" 143 12 63 1 := ⟨_, rfl, by decide, gT_in 1242 (by decide +kernel) rfl, rfl⟩
theorem oF_Md_146 : okF "MatchPipeModel" 146 12 64 1 := ⟨_, rfl, by decide, gT_in 1243 (by decide +kernel) rfl, rfl⟩
theorem oF_Md_149 : okF "MatchPipeModel" 149 12 65 1 := ⟨_, rfl, by decide, gT_in 1244 (by decide +kernel) rfl, rfl⟩
theorem oF_Md_174 : okF "MatchPipeModel" 174 12 77 1 := ⟨_, rfl, by decide, gT_in 1256 (by decide +kernel) rfl, rfl⟩
theorem oF_Md_177 : okF "MatchPipeModel" 177 12 78 1 := ⟨_, rfl, by decide, gT_in 1257 (by decide +kernel) rfl, rfl⟩
theorem oF_Md_180 : okF "MatchPipeModel" 180 12 79 1 := ⟨_, rfl, by decide, gT_in 1258 (by decide +kernel) rfl, rfl⟩
theorem oF_Md_298 : okF "MatchPipeModel" 298 12 74 0 := ⟨_, rfl, by decide, gT_in 1253 (by decide +kernel) rfl, rfl⟩
theorem oF_Md_301 : okF "MatchPipeModel" 301 12 73 0 := ⟨_, rfl, by decide, gT_in 1252 (by decide +kernel) rfl, rfl⟩
theorem oF_Md_304 : okF "MatchPipeModel" 304 12 75 0 := ⟨_, rfl, by decide, gT_in 1254 (by decide +kernel) rfl, rfl⟩
theorem oF_Md_307 : okF "MatchPipeModel" 307 12 76 2 := ⟨_, rfl, by decide, gT_in 1255 (by decide +kernel) rfl, rfl⟩
/-! MatchPipeModel.feed(IIIII)V -/
def yMd_feed : MethodName := ⟨"MatchPipeModel", "feed", "(IIIII)V"⟩
def tMd_feed : tM := (prog_14_method_26_code, "MatchPipeModel", 8, "feed", none, [])
def rMd_feed : Room := { frames := 0, cells := 0, slots := 0, locals := 0 }
theorem kMd_feed : cOf yMd_feed tMd_feed ∈ gT := gT_in 1521 (by decide +kernel) rfl
theorem iMd_feed : Cond.initialized yMd_feed.cls ∈ gT := gT_in 68 (by decide +kernel) rfl
theorem mMd_feed : okM yMd_feed 5 := ⟨by decide, by decide, by unfold nPar; decide +kernel⟩
theorem nMd_feed : Cond.instanceMethod yMd_feed ∈ gT := gT_in 1519 (by decide +kernel) rfl
theorem lMd_feed : Cond.selects "MatchPipeModel" yMd_feed yMd_feed ∈ gT := gT_in 1520 (by decide +kernel) rfl
def fMd_feed_8  : Nat → Nat → Int32 → Int32 → Int32 → Int32 → Int32 → Int32 → Sx → Option (Sx)
  | 0, _, _, _, _, _, _, _, _ => none
  | n + 1, x0, x1, x2, x3, x4, x5, x6, S =>
    if (4 : Int32) ≤ x6 then
    (some S)
    else
    ((gX S 12 45 x0).bind fun v1 =>
    (qI S v1 x6 ((x1 >>> ((24 - (8 * x6)) &&& 31)) &&& 255)).bind fun S3 =>
    (gX S3 12 45 x0).bind fun v5 =>
    (qI S3 v5 (4 + x6) ((x2 >>> ((24 - (8 * x6)) &&& 31)) &&& 255)).bind fun S7 =>
    (gX S7 12 45 x0).bind fun v9 =>
    (qI S7 v9 (8 + x6) ((x3 >>> ((24 - (8 * x6)) &&& 31)) &&& 255)).bind fun S11 =>
    (gX S11 12 45 x0).bind fun v13 =>
    (qI S11 v13 (12 + x6) ((x4 >>> ((24 - (8 * x6)) &&& 31)) &&& 255)).bind fun S15 =>
    (gX S15 12 45 x0).bind fun v17 =>
    (qI S15 v17 (16 + x6) ((x5 >>> ((24 - (8 * x6)) &&& 31)) &&& 255)).bind fun S19 =>
    fMd_feed_8 n x0 x1 x2 x3 x4 x5 (x6 + 1) S19)
set_option maxRecDepth 100000 in
set_option maxHeartbeats 4000000 in
theorem wMd_feed_8 {Γ : vG} (hR : gR Γ = rMd_feed) (hl : (gl Γ).flags = pinnedFlags ++ [noTraceFlag]) {X : Sx}  : ∀ (n : Nat) (x0 : Nat) (x1 : Int32) (x2 : Int32) (x3 : Int32) (x4 : Int32) (x5 : Int32) (x6 : Int32) (S : Sx), fMd_feed_8  n x0 x1 x2 x3 x4 x5 x6 S = some X → vV Γ tMd_feed (mQ Γ 0 0 0 none X) S 0 0 8 [(0, .ref x0), (1, .int x1), (2, .int x2), (3, .int x3), (4, .int x4), (5, .int x5), (6, .int x6)] [] := by
  intro n
  induction n with
  | zero => intro x0 x1 x2 x3 x4 x5 x6 S h; rw [fMd_feed_8] at h; cases h
  | succ n ih =>
    intro x0 x1 x2 x3 x4 x5 x6 S h
    rw [fMd_feed_8] at h
    refine v_iload (pc := 8) (show decode (tC tMd_feed) 8 = .ok (.iload 6, 2) by decide +kernel) 6 rfl ?_
    refine v_iconst (pc := 10) (v := 4) (show decode (tC tMd_feed) 10 = .ok (.iconst 4, 1) by decide +kernel) (by decide) ?_
    refine v_icmp_ge (pc := 11) 118 (show decode (tC tMd_feed) 11 = .ok (.if_icmp .ge 107, 3) by decide +kernel) (by decide) (fun c => ?_) (fun c => ?_)
    · replace h := ite_t c h
      obtain rfl := Option.some.inj h
      refine v_wide (ce2 := 0) (sl2 := 0) (by decide) (by decide) ?_
      exact v_vret (pc := 118) rfl (show decode (tC tMd_feed) 118 = .ok (.return_, 1) by decide +kernel)
    · replace h := ite_f c h
      refine v_bipush (pc := 14) (v := 24) (show decode (tC tMd_feed) 14 = .ok (.bipush 24, 2) by decide +kernel) (by decide) ?_
      refine v_bipush (pc := 16) (v := 8) (show decode (tC tMd_feed) 16 = .ok (.bipush 8, 2) by decide +kernel) (by decide) ?_
      refine v_iload (pc := 18) (show decode (tC tMd_feed) 18 = .ok (.iload 6, 2) by decide +kernel) 6 rfl ?_
      refine v_imul (pc := 20) (show decode (tC tMd_feed) 20 = .ok (.imul, 1) by decide +kernel) ?_
      refine v_isub (pc := 21) (show decode (tC tMd_feed) 21 = .ok (.isub, 1) by decide +kernel) ?_
      refine v_istore (pc := 22) [(7, .int (24 - (8 * x6))), (0, .ref x0), (1, .int x1), (2, .int x2), (3, .int x3), (4, .int x4), (5, .int x5), (6, .int x6)] (show decode (tC tMd_feed) 22 = .ok (.istore 7, 2) by decide +kernel) (by decide) rfl ?_
      refine v_aload_n (pc := 24) (show decode (tC tMd_feed) 24 = .ok (.aload_n 0, 1) by decide +kernel) 1 rfl rfl ?_
      obtain ⟨v1, e2, h⟩ := ob h
      refine v_getX (pc := 25) oF_Md_119 e2 (show decode (tC tMd_feed) 25 = .ok (.getfield 119, 3) by decide +kernel) ?_
      refine v_iload (pc := 28) (show decode (tC tMd_feed) 28 = .ok (.iload 6, 2) by decide +kernel) 7 rfl ?_
      refine v_iload_n (pc := 30) (show decode (tC tMd_feed) 30 = .ok (.iload_n 1, 1) by decide +kernel) 2 rfl rfl ?_
      refine v_iload (pc := 31) (show decode (tC tMd_feed) 31 = .ok (.iload 7, 2) by decide +kernel) 0 rfl ?_
      refine v_ishr (pc := 33) (show decode (tC tMd_feed) 33 = .ok (.ishr, 1) by decide +kernel) ?_
      refine v_sipush (pc := 34) (v := 255) (show decode (tC tMd_feed) 34 = .ok (.sipush 255, 3) by decide +kernel) (by decide) ?_
      refine v_iand (pc := 37) (show decode (tC tMd_feed) 37 = .ok (.iand, 1) by decide +kernel) ?_
      obtain ⟨S3, e4, h⟩ := ob h
      refine v_iast (pc := 38) e4 (show decode (tC tMd_feed) 38 = .ok (.iastore, 1) by decide +kernel) ?_
      refine v_aload_n (pc := 39) (show decode (tC tMd_feed) 39 = .ok (.aload_n 0, 1) by decide +kernel) 1 rfl rfl ?_
      obtain ⟨v5, e6, h⟩ := ob h
      refine v_getX (pc := 40) oF_Md_119 e6 (show decode (tC tMd_feed) 40 = .ok (.getfield 119, 3) by decide +kernel) ?_
      refine v_iconst (pc := 43) (v := 4) (show decode (tC tMd_feed) 43 = .ok (.iconst 4, 1) by decide +kernel) (by decide) ?_
      refine v_iload (pc := 44) (show decode (tC tMd_feed) 44 = .ok (.iload 6, 2) by decide +kernel) 7 rfl ?_
      refine v_iadd (pc := 46) (show decode (tC tMd_feed) 46 = .ok (.iadd, 1) by decide +kernel) ?_
      refine v_iload_n (pc := 47) (show decode (tC tMd_feed) 47 = .ok (.iload_n 2, 1) by decide +kernel) 3 rfl rfl ?_
      refine v_iload (pc := 48) (show decode (tC tMd_feed) 48 = .ok (.iload 7, 2) by decide +kernel) 0 rfl ?_
      refine v_ishr (pc := 50) (show decode (tC tMd_feed) 50 = .ok (.ishr, 1) by decide +kernel) ?_
      refine v_sipush (pc := 51) (v := 255) (show decode (tC tMd_feed) 51 = .ok (.sipush 255, 3) by decide +kernel) (by decide) ?_
      refine v_iand (pc := 54) (show decode (tC tMd_feed) 54 = .ok (.iand, 1) by decide +kernel) ?_
      obtain ⟨S7, e8, h⟩ := ob h
      refine v_iast (pc := 55) e8 (show decode (tC tMd_feed) 55 = .ok (.iastore, 1) by decide +kernel) ?_
      refine v_aload_n (pc := 56) (show decode (tC tMd_feed) 56 = .ok (.aload_n 0, 1) by decide +kernel) 1 rfl rfl ?_
      obtain ⟨v9, e10, h⟩ := ob h
      refine v_getX (pc := 57) oF_Md_119 e10 (show decode (tC tMd_feed) 57 = .ok (.getfield 119, 3) by decide +kernel) ?_
      refine v_bipush (pc := 60) (v := 8) (show decode (tC tMd_feed) 60 = .ok (.bipush 8, 2) by decide +kernel) (by decide) ?_
      refine v_iload (pc := 62) (show decode (tC tMd_feed) 62 = .ok (.iload 6, 2) by decide +kernel) 7 rfl ?_
      refine v_iadd (pc := 64) (show decode (tC tMd_feed) 64 = .ok (.iadd, 1) by decide +kernel) ?_
      refine v_iload_n (pc := 65) (show decode (tC tMd_feed) 65 = .ok (.iload_n 3, 1) by decide +kernel) 4 rfl rfl ?_
      refine v_iload (pc := 66) (show decode (tC tMd_feed) 66 = .ok (.iload 7, 2) by decide +kernel) 0 rfl ?_
      refine v_ishr (pc := 68) (show decode (tC tMd_feed) 68 = .ok (.ishr, 1) by decide +kernel) ?_
      refine v_sipush (pc := 69) (v := 255) (show decode (tC tMd_feed) 69 = .ok (.sipush 255, 3) by decide +kernel) (by decide) ?_
      refine v_iand (pc := 72) (show decode (tC tMd_feed) 72 = .ok (.iand, 1) by decide +kernel) ?_
      obtain ⟨S11, e12, h⟩ := ob h
      refine v_iast (pc := 73) e12 (show decode (tC tMd_feed) 73 = .ok (.iastore, 1) by decide +kernel) ?_
      refine v_aload_n (pc := 74) (show decode (tC tMd_feed) 74 = .ok (.aload_n 0, 1) by decide +kernel) 1 rfl rfl ?_
      obtain ⟨v13, e14, h⟩ := ob h
      refine v_getX (pc := 75) oF_Md_119 e14 (show decode (tC tMd_feed) 75 = .ok (.getfield 119, 3) by decide +kernel) ?_
      refine v_bipush (pc := 78) (v := 12) (show decode (tC tMd_feed) 78 = .ok (.bipush 12, 2) by decide +kernel) (by decide) ?_
      refine v_iload (pc := 80) (show decode (tC tMd_feed) 80 = .ok (.iload 6, 2) by decide +kernel) 7 rfl ?_
      refine v_iadd (pc := 82) (show decode (tC tMd_feed) 82 = .ok (.iadd, 1) by decide +kernel) ?_
      refine v_iload (pc := 83) (show decode (tC tMd_feed) 83 = .ok (.iload 4, 2) by decide +kernel) 5 rfl ?_
      refine v_iload (pc := 85) (show decode (tC tMd_feed) 85 = .ok (.iload 7, 2) by decide +kernel) 0 rfl ?_
      refine v_ishr (pc := 87) (show decode (tC tMd_feed) 87 = .ok (.ishr, 1) by decide +kernel) ?_
      refine v_sipush (pc := 88) (v := 255) (show decode (tC tMd_feed) 88 = .ok (.sipush 255, 3) by decide +kernel) (by decide) ?_
      refine v_iand (pc := 91) (show decode (tC tMd_feed) 91 = .ok (.iand, 1) by decide +kernel) ?_
      obtain ⟨S15, e16, h⟩ := ob h
      refine v_iast (pc := 92) e16 (show decode (tC tMd_feed) 92 = .ok (.iastore, 1) by decide +kernel) ?_
      refine v_aload_n (pc := 93) (show decode (tC tMd_feed) 93 = .ok (.aload_n 0, 1) by decide +kernel) 1 rfl rfl ?_
      obtain ⟨v17, e18, h⟩ := ob h
      refine v_getX (pc := 94) oF_Md_119 e18 (show decode (tC tMd_feed) 94 = .ok (.getfield 119, 3) by decide +kernel) ?_
      refine v_bipush (pc := 97) (v := 16) (show decode (tC tMd_feed) 97 = .ok (.bipush 16, 2) by decide +kernel) (by decide) ?_
      refine v_iload (pc := 99) (show decode (tC tMd_feed) 99 = .ok (.iload 6, 2) by decide +kernel) 7 rfl ?_
      refine v_iadd (pc := 101) (show decode (tC tMd_feed) 101 = .ok (.iadd, 1) by decide +kernel) ?_
      refine v_iload (pc := 102) (show decode (tC tMd_feed) 102 = .ok (.iload 5, 2) by decide +kernel) 6 rfl ?_
      refine v_iload (pc := 104) (show decode (tC tMd_feed) 104 = .ok (.iload 7, 2) by decide +kernel) 0 rfl ?_
      refine v_ishr (pc := 106) (show decode (tC tMd_feed) 106 = .ok (.ishr, 1) by decide +kernel) ?_
      refine v_sipush (pc := 107) (v := 255) (show decode (tC tMd_feed) 107 = .ok (.sipush 255, 3) by decide +kernel) (by decide) ?_
      refine v_iand (pc := 110) (show decode (tC tMd_feed) 110 = .ok (.iand, 1) by decide +kernel) ?_
      obtain ⟨S19, e20, h⟩ := ob h
      refine v_iast (pc := 111) e20 (show decode (tC tMd_feed) 111 = .ok (.iastore, 1) by decide +kernel) ?_
      refine v_iinc (pc := 112) (j := 7) [(6, .int (x6 + 1)), (7, .int (24 - (8 * x6))), (0, .ref x0), (1, .int x1), (2, .int x2), (3, .int x3), (4, .int x4), (5, .int x5)] (show decode (tC tMd_feed) 112 = .ok (.iinc 6 1, 3) by decide +kernel) rfl rfl (by decide) rfl ?_
      refine v_goto (pc := 115) 8 (show decode (tC tMd_feed) 115 = .ok (.goto (-107), 3) by decide +kernel) (by decide) ?_
      refine v_sub [(0, .ref x0), (1, .int x1), (2, .int x2), (3, .int x3), (4, .int x4), (5, .int x5), (6, .int (x6 + 1))] [2, 3, 4, 5, 6, 7, 0] rfl ?_
      exact ih x0 x1 x2 x3 x4 x5 (x6 + 1) S19 h
def fMd_feed (x0 : Nat) (x1 : Int32) (x2 : Int32) (x3 : Int32) (x4 : Int32) (x5 : Int32) (S : Sx) : Option (Sx) :=
    (pI S 12 0 x0 0).bind fun S1 =>
    fMd_feed_8  fuel x0 x1 x2 x3 x4 x5 0 S1
set_option maxRecDepth 100000 in
set_option maxHeartbeats 4000000 in
theorem wMd_feed {Γ : vG} (hR : gR Γ = rMd_feed) (hl : (gl Γ).flags = pinnedFlags ++ [noTraceFlag]) (x0 : Nat) (x1 : Int32) (x2 : Int32) (x3 : Int32) (x4 : Int32) (x5 : Int32) (S : Sx) {X : Sx} (h : fMd_feed x0 x1 x2 x3 x4 x5 S = some X) : vV Γ tMd_feed (mQ Γ 0 0 0 none X) S 0 0 0 [(0, .ref x0), (1, .int x1), (2, .int x2), (3, .int x3), (4, .int x4), (5, .int x5)] [] := by
  unfold fMd_feed at h
  refine v_aload_n (pc := 0) (show decode (tC tMd_feed) 0 = .ok (.aload_n 0, 1) by decide +kernel) 0 rfl rfl ?_
  refine v_iconst (pc := 1) (v := 0) (show decode (tC tMd_feed) 1 = .ok (.iconst 0, 1) by decide +kernel) (by decide) ?_
  obtain ⟨S1, e2, h⟩ := ob h
  refine v_putI (pc := 2) oF_Md_183 (fin_ok (kd := 12) (k := 0) (by decide +kernel)) e2 (show decode (tC tMd_feed) 2 = .ok (.putfield 183, 3) by decide +kernel) ?_
  refine v_iconst (pc := 5) (v := 0) (show decode (tC tMd_feed) 5 = .ok (.iconst 0, 1) by decide +kernel) (by decide) ?_
  refine v_istore (pc := 6) [(6, .int 0), (0, .ref x0), (1, .int x1), (2, .int x2), (3, .int x3), (4, .int x4), (5, .int x5)] (show decode (tC tMd_feed) 6 = .ok (.istore 6, 2) by decide +kernel) (by decide) rfl ?_
  refine v_sub [(0, .ref x0), (1, .int x1), (2, .int x2), (3, .int x3), (4, .int x4), (5, .int x5), (6, .int 0)] [1, 2, 3, 4, 5, 6, 0] rfl ?_
  exact wMd_feed_8 hR hl  fuel x0 x1 x2 x3 x4 x5 0 S1 h
theorem cMd_feed {l : Launch} (hl : l.flags = pinnedFlags ++ [noTraceFlag]) {D : va_G} {dA : Nat → ClassId} {B : Nat} {x0 : Nat} {x1 : Int32} {x2 : Int32} {x3 : Int32} {x4 : Int32} {x5 : Int32} {S : Sx} {X : Sx} (h : fMd_feed x0 x1 x2 x3 x4 x5 S = some X) : Mx l yMd_feed tMd_feed rMd_feed 0 0 D dA B S [.ref x0, .int x1, .int x2, .int x3, .int x4, .int x5] 0 none X :=
  mx_of hl (by decide) rfl rfl (Nat.le_of_ble_eq_true rfl) (fun Γ e1 e2 e3 e4 e5 => by subst e1; subst e3; subst e4; subst e5; exact wMd_feed e2 hl x0 x1 x2 x3 x4 x5 S h)
/-! MatchPipeModel.end(I)I -/
def yMd_end : MethodName := ⟨"MatchPipeModel", "end", "(I)I"⟩
def tMd_end : tM := (prog_14_method_27_code, "MatchPipeModel", 3, "end", some .int, [])
def rMd_end : Room := { frames := 0, cells := 0, slots := 0, locals := 0 }
theorem kMd_end : cOf yMd_end tMd_end ∈ gT := gT_in 1525 (by decide +kernel) rfl
theorem iMd_end : Cond.initialized yMd_end.cls ∈ gT := gT_in 68 (by decide +kernel) rfl
theorem mMd_end : okM yMd_end 1 := ⟨by decide, by decide, by unfold nPar; decide +kernel⟩
theorem nMd_end : Cond.instanceMethod yMd_end ∈ gT := gT_in 1523 (by decide +kernel) rfl
theorem lMd_end : Cond.selects "MatchPipeModel" yMd_end yMd_end ∈ gT := gT_in 1524 (by decide +kernel) rfl
def fMd_end_70  : Nat → Nat → Int32 → Sx → Option (Int32 × Sx)
  | 0, _, _, _ => none
  | n + 1, x0, x2, S =>
    if (20 : Int32) ≤ x2 then
    ((gI S 12 47 x0).bind fun v1 =>
    some (v1, S))
    else
    ((gX S 12 45 x0).bind fun v3 =>
    (qI S v3 x2 0).bind fun S5 =>
    fMd_end_70 n x0 (x2 + 1) S5)
set_option maxRecDepth 100000 in
set_option maxHeartbeats 4000000 in
theorem wMd_end_70 {Γ : vG} (hR : gR Γ = rMd_end) (hl : (gl Γ).flags = pinnedFlags ++ [noTraceFlag]) {X : Int32 × Sx}  : ∀ (n : Nat) (x0 : Nat) (x2 : Int32) (S : Sx), fMd_end_70  n x0 x2 S = some X → vV Γ tMd_end (mQ Γ 0 0 0 (some (.int X.1)) X.2) S 0 0 70 [(0, .ref x0), (2, .int x2)] [] := by
  intro n
  induction n with
  | zero => intro x0 x2 S h; rw [fMd_end_70] at h; cases h
  | succ n ih =>
    intro x0 x2 S h
    rw [fMd_end_70] at h
    refine v_iload_n (pc := 70) (show decode (tC tMd_end) 70 = .ok (.iload_n 2, 1) by decide +kernel) 1 rfl rfl ?_
    refine v_bipush (pc := 71) (v := 20) (show decode (tC tMd_end) 71 = .ok (.bipush 20, 2) by decide +kernel) (by decide) ?_
    refine v_icmp_ge (pc := 73) 89 (show decode (tC tMd_end) 73 = .ok (.if_icmp .ge 16, 3) by decide +kernel) (by decide) (fun c => ?_) (fun c => ?_)
    · replace h := ite_t c h
      refine v_aload_n (pc := 89) (show decode (tC tMd_end) 89 = .ok (.aload_n 0, 1) by decide +kernel) 0 rfl rfl ?_
      obtain ⟨v1, e2, h⟩ := ob h
      refine v_getI (pc := 90) oF_Md_211 (by decide) e2 (show decode (tC tMd_end) 90 = .ok (.getfield 211, 3) by decide +kernel) ?_
      obtain rfl := Option.some.inj h
      refine v_wide (ce2 := 0) (sl2 := 0) (by decide) (by decide) ?_
      exact v_iret (pc := 93) rfl (show decode (tC tMd_end) 93 = .ok (.ireturn, 1) by decide +kernel)
    · replace h := ite_f c h
      refine v_aload_n (pc := 76) (show decode (tC tMd_end) 76 = .ok (.aload_n 0, 1) by decide +kernel) 0 rfl rfl ?_
      obtain ⟨v3, e4, h⟩ := ob h
      refine v_getX (pc := 77) oF_Md_119 e4 (show decode (tC tMd_end) 77 = .ok (.getfield 119, 3) by decide +kernel) ?_
      refine v_iload_n (pc := 80) (show decode (tC tMd_end) 80 = .ok (.iload_n 2, 1) by decide +kernel) 1 rfl rfl ?_
      refine v_iconst (pc := 81) (v := 0) (show decode (tC tMd_end) 81 = .ok (.iconst 0, 1) by decide +kernel) (by decide) ?_
      obtain ⟨S5, e6, h⟩ := ob h
      refine v_iast (pc := 82) e6 (show decode (tC tMd_end) 82 = .ok (.iastore, 1) by decide +kernel) ?_
      refine v_iinc (pc := 83) (j := 1) [(2, .int (x2 + 1)), (0, .ref x0)] (show decode (tC tMd_end) 83 = .ok (.iinc 2 1, 3) by decide +kernel) rfl rfl (by decide) rfl ?_
      refine v_goto (pc := 86) 70 (show decode (tC tMd_end) 86 = .ok (.goto (-16), 3) by decide +kernel) (by decide) ?_
      refine v_sub [(0, .ref x0), (2, .int (x2 + 1))] [1, 0] rfl ?_
      exact ih x0 (x2 + 1) S5 h
def fMd_end_30  : Nat → Nat → Int32 → Int32 → Sx → Option (Int32 × Sx)
  | 0, _, _, _, _ => none
  | n + 1, x0, x1, x2, S =>
    if x1 ≤ x2 then
    ((gI S 12 47 x0).bind fun v1 =>
    (pI S 12 47 x0 (v1 + x1)).bind fun S3 =>
    fMd_end_70  fuel x0 0 S3)
    else
    ((gX S 12 46 x0).bind fun v5 =>
    (gI S 12 47 x0).bind fun v7 =>
    (gX S 12 45 x0).bind fun v9 =>
    (aI S v9 x2).bind fun v11 =>
    (qI S v5 (v7 + x2) v11).bind fun S13 =>
    fMd_end_30 n x0 x1 (x2 + 1) S13)
set_option maxRecDepth 100000 in
set_option maxHeartbeats 4000000 in
theorem wMd_end_30 {Γ : vG} (hR : gR Γ = rMd_end) (hl : (gl Γ).flags = pinnedFlags ++ [noTraceFlag]) {X : Int32 × Sx}  : ∀ (n : Nat) (x0 : Nat) (x1 : Int32) (x2 : Int32) (S : Sx), fMd_end_30  n x0 x1 x2 S = some X → vV Γ tMd_end (mQ Γ 0 0 0 (some (.int X.1)) X.2) S 0 0 30 [(0, .ref x0), (1, .int x1), (2, .int x2)] [] := by
  intro n
  induction n with
  | zero => intro x0 x1 x2 S h; rw [fMd_end_30] at h; cases h
  | succ n ih =>
    intro x0 x1 x2 S h
    rw [fMd_end_30] at h
    refine v_iload_n (pc := 30) (show decode (tC tMd_end) 30 = .ok (.iload_n 2, 1) by decide +kernel) 2 rfl rfl ?_
    refine v_iload_n (pc := 31) (show decode (tC tMd_end) 31 = .ok (.iload_n 1, 1) by decide +kernel) 1 rfl rfl ?_
    refine v_icmp_ge (pc := 32) 58 (show decode (tC tMd_end) 32 = .ok (.if_icmp .ge 26, 3) by decide +kernel) (by decide) (fun c => ?_) (fun c => ?_)
    · replace h := ite_t c h
      refine v_aload_n (pc := 58) (show decode (tC tMd_end) 58 = .ok (.aload_n 0, 1) by decide +kernel) 0 rfl rfl ?_
      refine v_dup (pc := 59) (show decode (tC tMd_end) 59 = .ok (.dup, 1) by decide +kernel) rfl ?_
      obtain ⟨v1, e2, h⟩ := ob h
      refine v_getI (pc := 60) oF_Md_211 (by decide) e2 (show decode (tC tMd_end) 60 = .ok (.getfield 211, 3) by decide +kernel) ?_
      refine v_iload_n (pc := 63) (show decode (tC tMd_end) 63 = .ok (.iload_n 1, 1) by decide +kernel) 1 rfl rfl ?_
      refine v_iadd (pc := 64) (show decode (tC tMd_end) 64 = .ok (.iadd, 1) by decide +kernel) ?_
      obtain ⟨S3, e4, h⟩ := ob h
      refine v_putI (pc := 65) oF_Md_211 (fin_ok (kd := 12) (k := 47) (by decide +kernel)) e4 (show decode (tC tMd_end) 65 = .ok (.putfield 211, 3) by decide +kernel) ?_
      refine v_iconst (pc := 68) (v := 0) (show decode (tC tMd_end) 68 = .ok (.iconst 0, 1) by decide +kernel) (by decide) ?_
      refine v_istore_n (pc := 69) [(2, .int 0), (0, .ref x0), (1, .int x1)] (show decode (tC tMd_end) 69 = .ok (.istore_n 2, 1) by decide +kernel) rfl (by decide) rfl ?_
      refine v_sub [(0, .ref x0), (2, .int 0)] [1, 0] rfl ?_
      exact wMd_end_70 hR hl  fuel x0 0 S3 h
    · replace h := ite_f c h
      refine v_aload_n (pc := 35) (show decode (tC tMd_end) 35 = .ok (.aload_n 0, 1) by decide +kernel) 0 rfl rfl ?_
      obtain ⟨v5, e6, h⟩ := ob h
      refine v_getX (pc := 36) oF_Md_122 e6 (show decode (tC tMd_end) 36 = .ok (.getfield 122, 3) by decide +kernel) ?_
      refine v_aload_n (pc := 39) (show decode (tC tMd_end) 39 = .ok (.aload_n 0, 1) by decide +kernel) 0 rfl rfl ?_
      obtain ⟨v7, e8, h⟩ := ob h
      refine v_getI (pc := 40) oF_Md_211 (by decide) e8 (show decode (tC tMd_end) 40 = .ok (.getfield 211, 3) by decide +kernel) ?_
      refine v_iload_n (pc := 43) (show decode (tC tMd_end) 43 = .ok (.iload_n 2, 1) by decide +kernel) 2 rfl rfl ?_
      refine v_iadd (pc := 44) (show decode (tC tMd_end) 44 = .ok (.iadd, 1) by decide +kernel) ?_
      refine v_aload_n (pc := 45) (show decode (tC tMd_end) 45 = .ok (.aload_n 0, 1) by decide +kernel) 0 rfl rfl ?_
      obtain ⟨v9, e10, h⟩ := ob h
      refine v_getX (pc := 46) oF_Md_119 e10 (show decode (tC tMd_end) 46 = .ok (.getfield 119, 3) by decide +kernel) ?_
      refine v_iload_n (pc := 49) (show decode (tC tMd_end) 49 = .ok (.iload_n 2, 1) by decide +kernel) 2 rfl rfl ?_
      obtain ⟨v11, e12, h⟩ := ob h
      refine v_iald (pc := 50) e12 (show decode (tC tMd_end) 50 = .ok (.iaload, 1) by decide +kernel) ?_
      obtain ⟨S13, e14, h⟩ := ob h
      refine v_iast (pc := 51) e14 (show decode (tC tMd_end) 51 = .ok (.iastore, 1) by decide +kernel) ?_
      refine v_iinc (pc := 52) (j := 2) [(2, .int (x2 + 1)), (0, .ref x0), (1, .int x1)] (show decode (tC tMd_end) 52 = .ok (.iinc 2 1, 3) by decide +kernel) rfl rfl (by decide) rfl ?_
      refine v_goto (pc := 55) 30 (show decode (tC tMd_end) 55 = .ok (.goto (-25), 3) by decide +kernel) (by decide) ?_
      refine v_sub [(0, .ref x0), (1, .int x1), (2, .int (x2 + 1))] [1, 2, 0] rfl ?_
      exact ih x0 x1 (x2 + 1) S13 h
def fMd_end (x0 : Nat) (x1 : Int32) (S : Sx) : Option (Int32 × Sx) :=
    (pI S 12 0 x0 0).bind fun S1 =>
    if x1 < 0 then
    (some ((-1), S1))
    else
    (if (20 : Int32) < x1 then
    (some ((-1), S1))
    else
    ((gI S1 12 47 x0).bind fun v3 =>
    if (v3 + x1) ≤ 60 then
    (fMd_end_30  fuel x0 x1 0 S1)
    else
    (some ((-1), S1))))
set_option maxRecDepth 100000 in
set_option maxHeartbeats 4000000 in
theorem wMd_end {Γ : vG} (hR : gR Γ = rMd_end) (hl : (gl Γ).flags = pinnedFlags ++ [noTraceFlag]) (x0 : Nat) (x1 : Int32) (S : Sx) {X : Int32 × Sx} (h : fMd_end x0 x1 S = some X) : vV Γ tMd_end (mQ Γ 0 0 0 (some (.int X.1)) X.2) S 0 0 0 [(0, .ref x0), (1, .int x1)] [] := by
  unfold fMd_end at h
  refine v_aload_n (pc := 0) (show decode (tC tMd_end) 0 = .ok (.aload_n 0, 1) by decide +kernel) 0 rfl rfl ?_
  refine v_iconst (pc := 1) (v := 0) (show decode (tC tMd_end) 1 = .ok (.iconst 0, 1) by decide +kernel) (by decide) ?_
  obtain ⟨S1, e2, h⟩ := ob h
  refine v_putI (pc := 2) oF_Md_183 (fin_ok (kd := 12) (k := 0) (by decide +kernel)) e2 (show decode (tC tMd_end) 2 = .ok (.putfield 183, 3) by decide +kernel) ?_
  refine v_iload_n (pc := 5) (show decode (tC tMd_end) 5 = .ok (.iload_n 1, 1) by decide +kernel) 1 rfl rfl ?_
  refine v_if_lt (pc := 6) 26 (show decode (tC tMd_end) 6 = .ok (.ifCond .lt 20, 3) by decide +kernel) (by decide) (fun c => ?_) (fun c => ?_)
  · replace h := ite_t c h
    refine v_iconst (pc := 26) (v := (-1)) (show decode (tC tMd_end) 26 = .ok (.iconst (-1), 1) by decide +kernel) (by decide) ?_
    obtain rfl := Option.some.inj h
    refine v_wide (ce2 := 0) (sl2 := 0) (by decide) (by decide) ?_
    exact v_iret (pc := 27) rfl (show decode (tC tMd_end) 27 = .ok (.ireturn, 1) by decide +kernel)
  · replace h := ite_f c h
    refine v_iload_n (pc := 9) (show decode (tC tMd_end) 9 = .ok (.iload_n 1, 1) by decide +kernel) 1 rfl rfl ?_
    refine v_bipush (pc := 10) (v := 20) (show decode (tC tMd_end) 10 = .ok (.bipush 20, 2) by decide +kernel) (by decide) ?_
    refine v_icmp_gt (pc := 12) 26 (show decode (tC tMd_end) 12 = .ok (.if_icmp .gt 14, 3) by decide +kernel) (by decide) (fun c => ?_) (fun c => ?_)
    · replace h := ite_t c h
      refine v_iconst (pc := 26) (v := (-1)) (show decode (tC tMd_end) 26 = .ok (.iconst (-1), 1) by decide +kernel) (by decide) ?_
      obtain rfl := Option.some.inj h
      refine v_wide (ce2 := 0) (sl2 := 0) (by decide) (by decide) ?_
      exact v_iret (pc := 27) rfl (show decode (tC tMd_end) 27 = .ok (.ireturn, 1) by decide +kernel)
    · replace h := ite_f c h
      refine v_aload_n (pc := 15) (show decode (tC tMd_end) 15 = .ok (.aload_n 0, 1) by decide +kernel) 0 rfl rfl ?_
      obtain ⟨v3, e4, h⟩ := ob h
      refine v_getI (pc := 16) oF_Md_211 (by decide) e4 (show decode (tC tMd_end) 16 = .ok (.getfield 211, 3) by decide +kernel) ?_
      refine v_iload_n (pc := 19) (show decode (tC tMd_end) 19 = .ok (.iload_n 1, 1) by decide +kernel) 1 rfl rfl ?_
      refine v_iadd (pc := 20) (show decode (tC tMd_end) 20 = .ok (.iadd, 1) by decide +kernel) ?_
      refine v_bipush (pc := 21) (v := 60) (show decode (tC tMd_end) 21 = .ok (.bipush 60, 2) by decide +kernel) (by decide) ?_
      refine v_icmp_le (pc := 23) 28 (show decode (tC tMd_end) 23 = .ok (.if_icmp .le 5, 3) by decide +kernel) (by decide) (fun c => ?_) (fun c => ?_)
      · replace h := ite_t c h
        refine v_iconst (pc := 28) (v := 0) (show decode (tC tMd_end) 28 = .ok (.iconst 0, 1) by decide +kernel) (by decide) ?_
        refine v_istore_n (pc := 29) [(2, .int 0), (0, .ref x0), (1, .int x1)] (show decode (tC tMd_end) 29 = .ok (.istore_n 2, 1) by decide +kernel) rfl (by decide) rfl ?_
        refine v_sub [(0, .ref x0), (1, .int x1), (2, .int 0)] [1, 2, 0] rfl ?_
        exact wMd_end_30 hR hl  fuel x0 x1 0 S1 h
      · replace h := ite_f c h
        refine v_iconst (pc := 26) (v := (-1)) (show decode (tC tMd_end) 26 = .ok (.iconst (-1), 1) by decide +kernel) (by decide) ?_
        obtain rfl := Option.some.inj h
        refine v_wide (ce2 := 0) (sl2 := 0) (by decide) (by decide) ?_
        exact v_iret (pc := 27) rfl (show decode (tC tMd_end) 27 = .ok (.ireturn, 1) by decide +kernel)
theorem cMd_end {l : Launch} (hl : l.flags = pinnedFlags ++ [noTraceFlag]) {D : va_G} {dA : Nat → ClassId} {B : Nat} {x0 : Nat} {x1 : Int32} {S : Sx} {X : Int32 × Sx} (h : fMd_end x0 x1 S = some X) : Mx l yMd_end tMd_end rMd_end 0 0 D dA B S [.ref x0, .int x1] 0 (some (.int X.1)) X.2 :=
  mx_of hl (by decide) rfl rfl (Nat.le_of_ble_eq_true rfl) (fun Γ e1 e2 e3 e4 e5 => by subst e1; subst e3; subst e4; subst e5; exact wMd_end e2 hl x0 x1 S h)
/-! MatchPipeModel.comes(I)I -/
def yMd_comes : MethodName := ⟨"MatchPipeModel", "comes", "(I)I"⟩
def tMd_comes : tM := (prog_14_method_28_code, "MatchPipeModel", 2, "comes", some .int, [])
def rMd_comes : Room := { frames := 0, cells := 0, slots := 0, locals := 0 }
theorem kMd_comes : cOf yMd_comes tMd_comes ∈ gT := gT_in 1533 (by decide +kernel) rfl
theorem iMd_comes : Cond.initialized yMd_comes.cls ∈ gT := gT_in 68 (by decide +kernel) rfl
theorem mMd_comes : okM yMd_comes 1 := ⟨by decide, by decide, by unfold nPar; decide +kernel⟩
theorem nMd_comes : Cond.instanceMethod yMd_comes ∈ gT := gT_in 1532 (by decide +kernel) rfl
theorem lMd_comes : Cond.selects "MatchPipeModel" yMd_comes yMd_comes ∈ gT := gT_in 33 (by decide +kernel) rfl
def fMd_comes (x0 : Nat) (x1 : Int32) (S : Sx) : Option (Int32 × Sx) :=
    (gX S 12 57 x0).bind fun v1 =>
    (gI S 12 53 x0).bind fun v3 =>
    (qI S v1 v3 x1).bind fun S5 =>
    (gI S5 12 53 x0).bind fun v7 =>
    (pI S5 12 53 x0 (v7 + 1)).bind fun S9 =>
    (gI S9 12 52 x0).bind fun v11 =>
    (pI S9 12 52 x0 (v11 + 1)).bind fun S13 =>
    (gI S13 12 52 x0).bind fun v15 =>
    some (v15 - 1, S13)
set_option maxRecDepth 100000 in
set_option maxHeartbeats 4000000 in
theorem wMd_comes {Γ : vG} (hR : gR Γ = rMd_comes) (hl : (gl Γ).flags = pinnedFlags ++ [noTraceFlag]) (x0 : Nat) (x1 : Int32) (S : Sx) {X : Int32 × Sx} (h : fMd_comes x0 x1 S = some X) : vV Γ tMd_comes (mQ Γ 0 0 0 (some (.int X.1)) X.2) S 0 0 0 [(0, .ref x0), (1, .int x1)] [] := by
  unfold fMd_comes at h
  refine v_aload_n (pc := 0) (show decode (tC tMd_comes) 0 = .ok (.aload_n 0, 1) by decide +kernel) 0 rfl rfl ?_
  obtain ⟨v1, e2, h⟩ := ob h
  refine v_getX (pc := 1) oF_Md_125 e2 (show decode (tC tMd_comes) 1 = .ok (.getfield 125, 3) by decide +kernel) ?_
  refine v_aload_n (pc := 4) (show decode (tC tMd_comes) 4 = .ok (.aload_n 0, 1) by decide +kernel) 0 rfl rfl ?_
  obtain ⟨v3, e4, h⟩ := ob h
  refine v_getI (pc := 5) oF_Md_229 (by decide) e4 (show decode (tC tMd_comes) 5 = .ok (.getfield 229, 3) by decide +kernel) ?_
  refine v_iload_n (pc := 8) (show decode (tC tMd_comes) 8 = .ok (.iload_n 1, 1) by decide +kernel) 1 rfl rfl ?_
  obtain ⟨S5, e6, h⟩ := ob h
  refine v_iast (pc := 9) e6 (show decode (tC tMd_comes) 9 = .ok (.iastore, 1) by decide +kernel) ?_
  refine v_aload_n (pc := 10) (show decode (tC tMd_comes) 10 = .ok (.aload_n 0, 1) by decide +kernel) 0 rfl rfl ?_
  refine v_dup (pc := 11) (show decode (tC tMd_comes) 11 = .ok (.dup, 1) by decide +kernel) rfl ?_
  obtain ⟨v7, e8, h⟩ := ob h
  refine v_getI (pc := 12) oF_Md_229 (by decide) e8 (show decode (tC tMd_comes) 12 = .ok (.getfield 229, 3) by decide +kernel) ?_
  refine v_iconst (pc := 15) (v := 1) (show decode (tC tMd_comes) 15 = .ok (.iconst 1, 1) by decide +kernel) (by decide) ?_
  refine v_iadd (pc := 16) (show decode (tC tMd_comes) 16 = .ok (.iadd, 1) by decide +kernel) ?_
  obtain ⟨S9, e10, h⟩ := ob h
  refine v_putI (pc := 17) oF_Md_229 (fin_ok (kd := 12) (k := 53) (by decide +kernel)) e10 (show decode (tC tMd_comes) 17 = .ok (.putfield 229, 3) by decide +kernel) ?_
  refine v_aload_n (pc := 20) (show decode (tC tMd_comes) 20 = .ok (.aload_n 0, 1) by decide +kernel) 0 rfl rfl ?_
  refine v_dup (pc := 21) (show decode (tC tMd_comes) 21 = .ok (.dup, 1) by decide +kernel) rfl ?_
  obtain ⟨v11, e12, h⟩ := ob h
  refine v_getI (pc := 22) oF_Md_226 (by decide) e12 (show decode (tC tMd_comes) 22 = .ok (.getfield 226, 3) by decide +kernel) ?_
  refine v_iconst (pc := 25) (v := 1) (show decode (tC tMd_comes) 25 = .ok (.iconst 1, 1) by decide +kernel) (by decide) ?_
  refine v_iadd (pc := 26) (show decode (tC tMd_comes) 26 = .ok (.iadd, 1) by decide +kernel) ?_
  obtain ⟨S13, e14, h⟩ := ob h
  refine v_putI (pc := 27) oF_Md_226 (fin_ok (kd := 12) (k := 52) (by decide +kernel)) e14 (show decode (tC tMd_comes) 27 = .ok (.putfield 226, 3) by decide +kernel) ?_
  refine v_aload_n (pc := 30) (show decode (tC tMd_comes) 30 = .ok (.aload_n 0, 1) by decide +kernel) 0 rfl rfl ?_
  obtain ⟨v15, e16, h⟩ := ob h
  refine v_getI (pc := 31) oF_Md_226 (by decide) e16 (show decode (tC tMd_comes) 31 = .ok (.getfield 226, 3) by decide +kernel) ?_
  refine v_iconst (pc := 34) (v := 1) (show decode (tC tMd_comes) 34 = .ok (.iconst 1, 1) by decide +kernel) (by decide) ?_
  refine v_isub (pc := 35) (show decode (tC tMd_comes) 35 = .ok (.isub, 1) by decide +kernel) ?_
  obtain rfl := Option.some.inj h
  refine v_wide (ce2 := 0) (sl2 := 0) (by decide) (by decide) ?_
  exact v_iret (pc := 36) rfl (show decode (tC tMd_comes) 36 = .ok (.ireturn, 1) by decide +kernel)
theorem cMd_comes {l : Launch} (hl : l.flags = pinnedFlags ++ [noTraceFlag]) {D : va_G} {dA : Nat → ClassId} {B : Nat} {x0 : Nat} {x1 : Int32} {S : Sx} {X : Int32 × Sx} (h : fMd_comes x0 x1 S = some X) : Mx l yMd_comes tMd_comes rMd_comes 0 0 D dA B S [.ref x0, .int x1] 0 (some (.int X.1)) X.2 :=
  mx_of hl (by decide) rfl rfl (Nat.le_of_ble_eq_true rfl) (fun Γ e1 e2 e3 e4 e5 => by subst e1; subst e3; subst e4; subst e5; exact wMd_comes e2 hl x0 x1 S h)
/-! MatchPipeModel.packet()I -/
def yMd_packet : MethodName := ⟨"MatchPipeModel", "packet", "()I"⟩
def tMd_packet : tM := (prog_14_method_29_code, "MatchPipeModel", 2, "packet", some .int, [])
def rMd_packet : Room := { frames := 1, cells := 0, slots := 0, locals := 21 }
theorem kMd_packet : cOf yMd_packet tMd_packet ∈ gT := gT_in 1529 (by decide +kernel) rfl
theorem iMd_packet : Cond.initialized yMd_packet.cls ∈ gT := gT_in 68 (by decide +kernel) rfl
theorem mMd_packet : okM yMd_packet 0 := ⟨by decide, by decide, by unfold nPar; decide +kernel⟩
theorem nMd_packet : Cond.instanceMethod yMd_packet ∈ gT := gT_in 1527 (by decide +kernel) rfl
theorem lMd_packet : Cond.selects "MatchPipeModel" yMd_packet yMd_packet ∈ gT := gT_in 1528 (by decide +kernel) rfl
def fMd_packet_49  : Nat → Nat → Int32 → Sx → Option (Int32 × Sx)
  | 0, _, _, _ => none
  | n + 1, x0, x1, S =>
    (gI S 12 47 x0).bind fun v1 =>
    if v1 ≤ x1 then
    ((pI S 12 47 x0 0).bind fun S3 =>
    (ckd S3 x0 12).bind fun _ =>
    bd2 (fMd_comes x0 0 S3) fun r7 S8 =>
    some (r7, S8))
    else
    ((gX S 12 59 x0).bind fun v9 =>
    (gI S 12 53 x0).bind fun v11 =>
    (gX S 12 46 x0).bind fun v13 =>
    (aI S v13 x1).bind fun v15 =>
    (qI S v9 ((60 * v11) + x1) v15).bind fun S17 =>
    fMd_packet_49 n x0 (x1 + 1) S17)
set_option maxRecDepth 100000 in
set_option maxHeartbeats 4000000 in
theorem wMd_packet_49 {Γ : vG} (hR : gR Γ = rMd_packet) (hl : (gl Γ).flags = pinnedFlags ++ [noTraceFlag]) {X : Int32 × Sx}  : ∀ (n : Nat) (x0 : Nat) (x1 : Int32) (S : Sx), fMd_packet_49  n x0 x1 S = some X → vV Γ tMd_packet (mQ Γ 0 0 0 (some (.int X.1)) X.2) S 0 0 49 [(0, .ref x0), (1, .int x1)] [] := by
  intro n
  induction n with
  | zero => intro x0 x1 S h; rw [fMd_packet_49] at h; cases h
  | succ n ih =>
    intro x0 x1 S h
    rw [fMd_packet_49] at h
    refine v_iload_n (pc := 49) (show decode (tC tMd_packet) 49 = .ok (.iload_n 1, 1) by decide +kernel) 1 rfl rfl ?_
    refine v_aload_n (pc := 50) (show decode (tC tMd_packet) 50 = .ok (.aload_n 0, 1) by decide +kernel) 0 rfl rfl ?_
    obtain ⟨v1, e2, h⟩ := ob h
    refine v_getI (pc := 51) oF_Md_211 (by decide) e2 (show decode (tC tMd_packet) 51 = .ok (.getfield 211, 3) by decide +kernel) ?_
    refine v_icmp_ge (pc := 54) 83 (show decode (tC tMd_packet) 54 = .ok (.if_icmp .ge 29, 3) by decide +kernel) (by decide) (fun c => ?_) (fun c => ?_)
    · replace h := ite_t c h
      refine v_aload_n (pc := 83) (show decode (tC tMd_packet) 83 = .ok (.aload_n 0, 1) by decide +kernel) 0 rfl rfl ?_
      refine v_iconst (pc := 84) (v := 0) (show decode (tC tMd_packet) 84 = .ok (.iconst 0, 1) by decide +kernel) (by decide) ?_
      obtain ⟨S3, e4, h⟩ := ob h
      refine v_putI (pc := 85) oF_Md_211 (fin_ok (kd := 12) (k := 47) (by decide +kernel)) e4 (show decode (tC tMd_packet) 85 = .ok (.putfield 211, 3) by decide +kernel) ?_
      refine v_aload_n (pc := 88) (show decode (tC tMd_packet) 88 = .ok (.aload_n 0, 1) by decide +kernel) 0 rfl rfl ?_
      refine v_iconst (pc := 89) (v := 0) (show decode (tC tMd_packet) 89 = .ok (.iconst 0, 1) by decide +kernel) (by decide) ?_
      obtain ⟨_, e6, h⟩ := ob h
      obtain ⟨r7, S8, e5, h⟩ := ob2 h
      refine v_call (pc := 90) (v := (some (.int r7))) (y := yMd_comes) (θ' := tMd_comes) (rm := rMd_comes) (av := [.ref x0, .int 0]) (st := []) (cMd_comes (l := gl Γ) hl e5) kMd_comes iMd_comes (iv_virt (y := yMd_comes) (θ' := tMd_comes) (kd := 12) (As := [.int 0]) rfl (ckd_of e6) kMd_comes (gT_in 1530 (by decide +kernel) rfl) nMd_comes lMd_comes mMd_comes rfl (show decode (tC tMd_packet) 90 = .ok (.invokevirtual 278, 3) by decide +kernel)) ⟨by rw [hR]; decide, by rw [hR]; decide, by rw [hR]; decide, by rw [hR]; decide⟩ (Nat.le_of_ble_eq_true rfl) ?_
      obtain rfl := Option.some.inj h
      refine v_wide (ce2 := 0) (sl2 := 0) (by decide) (by decide) ?_
      exact v_iret (pc := 93) rfl (show decode (tC tMd_packet) 93 = .ok (.ireturn, 1) by decide +kernel)
    · replace h := ite_f c h
      refine v_aload_n (pc := 57) (show decode (tC tMd_packet) 57 = .ok (.aload_n 0, 1) by decide +kernel) 0 rfl rfl ?_
      obtain ⟨v9, e10, h⟩ := ob h
      refine v_getX (pc := 58) oF_Md_131 e10 (show decode (tC tMd_packet) 58 = .ok (.getfield 131, 3) by decide +kernel) ?_
      refine v_bipush (pc := 61) (v := 60) (show decode (tC tMd_packet) 61 = .ok (.bipush 60, 2) by decide +kernel) (by decide) ?_
      refine v_aload_n (pc := 63) (show decode (tC tMd_packet) 63 = .ok (.aload_n 0, 1) by decide +kernel) 0 rfl rfl ?_
      obtain ⟨v11, e12, h⟩ := ob h
      refine v_getI (pc := 64) oF_Md_229 (by decide) e12 (show decode (tC tMd_packet) 64 = .ok (.getfield 229, 3) by decide +kernel) ?_
      refine v_imul (pc := 67) (show decode (tC tMd_packet) 67 = .ok (.imul, 1) by decide +kernel) ?_
      refine v_iload_n (pc := 68) (show decode (tC tMd_packet) 68 = .ok (.iload_n 1, 1) by decide +kernel) 1 rfl rfl ?_
      refine v_iadd (pc := 69) (show decode (tC tMd_packet) 69 = .ok (.iadd, 1) by decide +kernel) ?_
      refine v_aload_n (pc := 70) (show decode (tC tMd_packet) 70 = .ok (.aload_n 0, 1) by decide +kernel) 0 rfl rfl ?_
      obtain ⟨v13, e14, h⟩ := ob h
      refine v_getX (pc := 71) oF_Md_122 e14 (show decode (tC tMd_packet) 71 = .ok (.getfield 122, 3) by decide +kernel) ?_
      refine v_iload_n (pc := 74) (show decode (tC tMd_packet) 74 = .ok (.iload_n 1, 1) by decide +kernel) 1 rfl rfl ?_
      obtain ⟨v15, e16, h⟩ := ob h
      refine v_iald (pc := 75) e16 (show decode (tC tMd_packet) 75 = .ok (.iaload, 1) by decide +kernel) ?_
      obtain ⟨S17, e18, h⟩ := ob h
      refine v_iast (pc := 76) e18 (show decode (tC tMd_packet) 76 = .ok (.iastore, 1) by decide +kernel) ?_
      refine v_iinc (pc := 77) (j := 1) [(1, .int (x1 + 1)), (0, .ref x0)] (show decode (tC tMd_packet) 77 = .ok (.iinc 1 1, 3) by decide +kernel) rfl rfl (by decide) rfl ?_
      refine v_goto (pc := 80) 49 (show decode (tC tMd_packet) 80 = .ok (.goto (-31), 3) by decide +kernel) (by decide) ?_
      refine v_sub [(0, .ref x0), (1, .int (x1 + 1))] [1, 0] rfl ?_
      exact ih x0 (x1 + 1) S17 h
def fMd_packet_22  (x0 : Nat) (z0 : Int32) (z1 : Nat) (S : Sx) : Option (Int32 × Sx) :=
    (pI S 12 0 z1 z0).bind fun S1 =>
    (gI S1 12 0 x0).bind fun v3 =>
    if v3 ≤ 0 then
    ((gX S1 12 58 x0).bind fun v5 =>
    (gI S1 12 53 x0).bind fun v7 =>
    (gI S1 12 47 x0).bind fun v9 =>
    (qI S1 v5 v7 v9).bind fun S11 =>
    fMd_packet_49  fuel x0 0 S11)
    else
    (some (0, S1))
set_option maxRecDepth 100000 in
set_option maxHeartbeats 4000000 in
theorem wMd_packet_22 {Γ : vG} (hR : gR Γ = rMd_packet) (hl : (gl Γ).flags = pinnedFlags ++ [noTraceFlag]) {X : Int32 × Sx}  : ∀ (x0 : Nat) (z0 : Int32) (z1 : Nat) (S : Sx), fMd_packet_22  x0 z0 z1 S = some X → vV Γ tMd_packet (mQ Γ 0 0 0 (some (.int X.1)) X.2) S 0 0 22 [(0, .ref x0)] [.int z0, .ref z1] := by
  intro x0 z0 z1 S h
  unfold fMd_packet_22 at h
  obtain ⟨S1, e2, h⟩ := ob h
  refine v_putI (pc := 22) oF_Md_183 (fin_ok (kd := 12) (k := 0) (by decide +kernel)) e2 (show decode (tC tMd_packet) 22 = .ok (.putfield 183, 3) by decide +kernel) ?_
  refine v_aload_n (pc := 25) (show decode (tC tMd_packet) 25 = .ok (.aload_n 0, 1) by decide +kernel) 0 rfl rfl ?_
  obtain ⟨v3, e4, h⟩ := ob h
  refine v_getI (pc := 26) oF_Md_183 (by decide) e4 (show decode (tC tMd_packet) 26 = .ok (.getfield 183, 3) by decide +kernel) ?_
  refine v_if_le (pc := 29) 34 (show decode (tC tMd_packet) 29 = .ok (.ifCond .le 5, 3) by decide +kernel) (by decide) (fun c => ?_) (fun c => ?_)
  · replace h := ite_t c h
    refine v_aload_n (pc := 34) (show decode (tC tMd_packet) 34 = .ok (.aload_n 0, 1) by decide +kernel) 0 rfl rfl ?_
    obtain ⟨v5, e6, h⟩ := ob h
    refine v_getX (pc := 35) oF_Md_128 e6 (show decode (tC tMd_packet) 35 = .ok (.getfield 128, 3) by decide +kernel) ?_
    refine v_aload_n (pc := 38) (show decode (tC tMd_packet) 38 = .ok (.aload_n 0, 1) by decide +kernel) 0 rfl rfl ?_
    obtain ⟨v7, e8, h⟩ := ob h
    refine v_getI (pc := 39) oF_Md_229 (by decide) e8 (show decode (tC tMd_packet) 39 = .ok (.getfield 229, 3) by decide +kernel) ?_
    refine v_aload_n (pc := 42) (show decode (tC tMd_packet) 42 = .ok (.aload_n 0, 1) by decide +kernel) 0 rfl rfl ?_
    obtain ⟨v9, e10, h⟩ := ob h
    refine v_getI (pc := 43) oF_Md_211 (by decide) e10 (show decode (tC tMd_packet) 43 = .ok (.getfield 211, 3) by decide +kernel) ?_
    obtain ⟨S11, e12, h⟩ := ob h
    refine v_iast (pc := 46) e12 (show decode (tC tMd_packet) 46 = .ok (.iastore, 1) by decide +kernel) ?_
    refine v_iconst (pc := 47) (v := 0) (show decode (tC tMd_packet) 47 = .ok (.iconst 0, 1) by decide +kernel) (by decide) ?_
    refine v_istore_n (pc := 48) [(1, .int 0), (0, .ref x0)] (show decode (tC tMd_packet) 48 = .ok (.istore_n 1, 1) by decide +kernel) rfl (by decide) rfl ?_
    refine v_sub [(0, .ref x0), (1, .int 0)] [1, 0] rfl ?_
    exact wMd_packet_49 hR hl  fuel x0 0 S11 h
  · replace h := ite_f c h
    refine v_iconst (pc := 32) (v := 0) (show decode (tC tMd_packet) 32 = .ok (.iconst 0, 1) by decide +kernel) (by decide) ?_
    obtain rfl := Option.some.inj h
    refine v_wide (ce2 := 0) (sl2 := 0) (by decide) (by decide) ?_
    exact v_iret (pc := 33) rfl (show decode (tC tMd_packet) 33 = .ok (.ireturn, 1) by decide +kernel)
def fMd_packet_17  (x0 : Nat) (z0 : Nat) (S : Sx) : Option (Int32 × Sx) :=
    fMd_packet_22  x0 1 z0 S
set_option maxRecDepth 100000 in
set_option maxHeartbeats 4000000 in
theorem wMd_packet_17 {Γ : vG} (hR : gR Γ = rMd_packet) (hl : (gl Γ).flags = pinnedFlags ++ [noTraceFlag]) {X : Int32 × Sx}  : ∀ (x0 : Nat) (z0 : Nat) (S : Sx), fMd_packet_17  x0 z0 S = some X → vV Γ tMd_packet (mQ Γ 0 0 0 (some (.int X.1)) X.2) S 0 0 17 [(0, .ref x0)] [.ref z0] := by
  intro x0 z0 S h
  unfold fMd_packet_17 at h
  refine v_iconst (pc := 17) (v := 1) (show decode (tC tMd_packet) 17 = .ok (.iconst 1, 1) by decide +kernel) (by decide) ?_
  refine v_goto (pc := 18) 22 (show decode (tC tMd_packet) 18 = .ok (.goto 4, 3) by decide +kernel) (by decide) ?_
  exact wMd_packet_22 hR hl  x0 1 z0 S h
def fMd_packet (x0 : Nat) (S : Sx) : Option (Int32 × Sx) :=
    (gI S 12 7 x0).bind fun v1 =>
    if v1 = 0 then
    (fMd_packet_17  x0 x0 S)
    else
    ((gI S 12 53 x0).bind fun v3 =>
    if v3 = 40 then
    (fMd_packet_17  x0 x0 S)
    else
    (fMd_packet_22  x0 0 x0 S))
set_option maxRecDepth 100000 in
set_option maxHeartbeats 4000000 in
theorem wMd_packet {Γ : vG} (hR : gR Γ = rMd_packet) (hl : (gl Γ).flags = pinnedFlags ++ [noTraceFlag]) (x0 : Nat) (S : Sx) {X : Int32 × Sx} (h : fMd_packet x0 S = some X) : vV Γ tMd_packet (mQ Γ 0 0 0 (some (.int X.1)) X.2) S 0 0 0 [(0, .ref x0)] [] := by
  unfold fMd_packet at h
  refine v_aload_n (pc := 0) (show decode (tC tMd_packet) 0 = .ok (.aload_n 0, 1) by decide +kernel) 0 rfl rfl ?_
  refine v_aload_n (pc := 1) (show decode (tC tMd_packet) 1 = .ok (.aload_n 0, 1) by decide +kernel) 0 rfl rfl ?_
  obtain ⟨v1, e2, h⟩ := ob h
  refine v_getI (pc := 2) oF_Md_204 (by decide) e2 (show decode (tC tMd_packet) 2 = .ok (.getfield 204, 3) by decide +kernel) ?_
  refine v_if_eq (pc := 5) 17 (show decode (tC tMd_packet) 5 = .ok (.ifCond .eq 12, 3) by decide +kernel) (by decide) (fun c => ?_) (fun c => ?_)
  · replace h := ite_t c h
    exact wMd_packet_17 hR hl  x0 x0 S h
  · replace h := ite_f c h
    refine v_aload_n (pc := 8) (show decode (tC tMd_packet) 8 = .ok (.aload_n 0, 1) by decide +kernel) 0 rfl rfl ?_
    obtain ⟨v3, e4, h⟩ := ob h
    refine v_getI (pc := 9) oF_Md_229 (by decide) e4 (show decode (tC tMd_packet) 9 = .ok (.getfield 229, 3) by decide +kernel) ?_
    refine v_bipush (pc := 12) (v := 40) (show decode (tC tMd_packet) 12 = .ok (.bipush 40, 2) by decide +kernel) (by decide) ?_
    refine v_icmp_ne (pc := 14) 21 (show decode (tC tMd_packet) 14 = .ok (.if_icmp .ne 7, 3) by decide +kernel) (by decide) (fun c => ?_) (fun c => ?_)
    · replace h := ite_f c h
      refine v_iconst (pc := 21) (v := 0) (show decode (tC tMd_packet) 21 = .ok (.iconst 0, 1) by decide +kernel) (by decide) ?_
      exact wMd_packet_22 hR hl  x0 0 x0 S h
    · replace h := ite_t c h
      exact wMd_packet_17 hR hl  x0 x0 S h
theorem cMd_packet {l : Launch} (hl : l.flags = pinnedFlags ++ [noTraceFlag]) {D : va_G} {dA : Nat → ClassId} {B : Nat} {x0 : Nat} {S : Sx} {X : Int32 × Sx} (h : fMd_packet x0 S = some X) : Mx l yMd_packet tMd_packet rMd_packet 0 0 D dA B S [.ref x0] 0 (some (.int X.1)) X.2 :=
  mx_of hl (by decide) rfl rfl (Nat.le_of_ble_eq_true rfl) (fun Γ e1 e2 e3 e4 e5 => by subst e1; subst e3; subst e4; subst e5; exact wMd_packet e2 hl x0 S h)
/-! MatchPipeModel.key(IIII)V -/
def yMd_key : MethodName := ⟨"MatchPipeModel", "key", "(IIII)V"⟩
def tMd_key : tM := (prog_14_method_30_code, "MatchPipeModel", 5, "key", none, [])
def rMd_key : Room := { frames := 0, cells := 0, slots := 0, locals := 0 }
theorem kMd_key : cOf yMd_key tMd_key ∈ gT := gT_in 1537 (by decide +kernel) rfl
theorem iMd_key : Cond.initialized yMd_key.cls ∈ gT := gT_in 68 (by decide +kernel) rfl
theorem mMd_key : okM yMd_key 4 := ⟨by decide, by decide, by unfold nPar; decide +kernel⟩
theorem nMd_key : Cond.instanceMethod yMd_key ∈ gT := gT_in 1535 (by decide +kernel) rfl
theorem lMd_key : Cond.selects "MatchPipeModel" yMd_key yMd_key ∈ gT := gT_in 1536 (by decide +kernel) rfl
def fMd_key (x0 : Nat) (x1 : Int32) (x2 : Int32) (x3 : Int32) (x4 : Int32) (S : Sx) : Option (Sx) :=
    (pI S 12 0 x0 0).bind fun S1 =>
    (pI S1 12 48 x0 x1).bind fun S3 =>
    (pI S3 12 49 x0 x2).bind fun S5 =>
    (pI S5 12 50 x0 x3).bind fun S7 =>
    (pI S7 12 51 x0 x4).bind fun S9 =>
    some S9
set_option maxRecDepth 100000 in
set_option maxHeartbeats 4000000 in
theorem wMd_key {Γ : vG} (hR : gR Γ = rMd_key) (hl : (gl Γ).flags = pinnedFlags ++ [noTraceFlag]) (x0 : Nat) (x1 : Int32) (x2 : Int32) (x3 : Int32) (x4 : Int32) (S : Sx) {X : Sx} (h : fMd_key x0 x1 x2 x3 x4 S = some X) : vV Γ tMd_key (mQ Γ 0 0 0 none X) S 0 0 0 [(0, .ref x0), (1, .int x1), (2, .int x2), (3, .int x3), (4, .int x4)] [] := by
  unfold fMd_key at h
  refine v_aload_n (pc := 0) (show decode (tC tMd_key) 0 = .ok (.aload_n 0, 1) by decide +kernel) 0 rfl rfl ?_
  refine v_iconst (pc := 1) (v := 0) (show decode (tC tMd_key) 1 = .ok (.iconst 0, 1) by decide +kernel) (by decide) ?_
  obtain ⟨S1, e2, h⟩ := ob h
  refine v_putI (pc := 2) oF_Md_183 (fin_ok (kd := 12) (k := 0) (by decide +kernel)) e2 (show decode (tC tMd_key) 2 = .ok (.putfield 183, 3) by decide +kernel) ?_
  refine v_aload_n (pc := 5) (show decode (tC tMd_key) 5 = .ok (.aload_n 0, 1) by decide +kernel) 0 rfl rfl ?_
  refine v_iload_n (pc := 6) (show decode (tC tMd_key) 6 = .ok (.iload_n 1, 1) by decide +kernel) 1 rfl rfl ?_
  obtain ⟨S3, e4, h⟩ := ob h
  refine v_putI (pc := 7) oF_Md_214 (fin_ok (kd := 12) (k := 48) (by decide +kernel)) e4 (show decode (tC tMd_key) 7 = .ok (.putfield 214, 3) by decide +kernel) ?_
  refine v_aload_n (pc := 10) (show decode (tC tMd_key) 10 = .ok (.aload_n 0, 1) by decide +kernel) 0 rfl rfl ?_
  refine v_iload_n (pc := 11) (show decode (tC tMd_key) 11 = .ok (.iload_n 2, 1) by decide +kernel) 2 rfl rfl ?_
  obtain ⟨S5, e6, h⟩ := ob h
  refine v_putI (pc := 12) oF_Md_217 (fin_ok (kd := 12) (k := 49) (by decide +kernel)) e6 (show decode (tC tMd_key) 12 = .ok (.putfield 217, 3) by decide +kernel) ?_
  refine v_aload_n (pc := 15) (show decode (tC tMd_key) 15 = .ok (.aload_n 0, 1) by decide +kernel) 0 rfl rfl ?_
  refine v_iload_n (pc := 16) (show decode (tC tMd_key) 16 = .ok (.iload_n 3, 1) by decide +kernel) 3 rfl rfl ?_
  obtain ⟨S7, e8, h⟩ := ob h
  refine v_putI (pc := 17) oF_Md_220 (fin_ok (kd := 12) (k := 50) (by decide +kernel)) e8 (show decode (tC tMd_key) 17 = .ok (.putfield 220, 3) by decide +kernel) ?_
  refine v_aload_n (pc := 20) (show decode (tC tMd_key) 20 = .ok (.aload_n 0, 1) by decide +kernel) 0 rfl rfl ?_
  refine v_iload (pc := 21) (show decode (tC tMd_key) 21 = .ok (.iload 4, 2) by decide +kernel) 4 rfl ?_
  obtain ⟨S9, e10, h⟩ := ob h
  refine v_putI (pc := 23) oF_Md_223 (fin_ok (kd := 12) (k := 51) (by decide +kernel)) e10 (show decode (tC tMd_key) 23 = .ok (.putfield 223, 3) by decide +kernel) ?_
  obtain rfl := Option.some.inj h
  refine v_wide (ce2 := 0) (sl2 := 0) (by decide) (by decide) ?_
  exact v_vret (pc := 26) rfl (show decode (tC tMd_key) 26 = .ok (.return_, 1) by decide +kernel)
theorem cMd_key {l : Launch} (hl : l.flags = pinnedFlags ++ [noTraceFlag]) {D : va_G} {dA : Nat → ClassId} {B : Nat} {x0 : Nat} {x1 : Int32} {x2 : Int32} {x3 : Int32} {x4 : Int32} {S : Sx} {X : Sx} (h : fMd_key x0 x1 x2 x3 x4 S = some X) : Mx l yMd_key tMd_key rMd_key 0 0 D dA B S [.ref x0, .int x1, .int x2, .int x3, .int x4] 0 none X :=
  mx_of hl (by decide) rfl rfl (Nat.le_of_ble_eq_true rfl) (fun Γ e1 e2 e3 e4 e5 => by subst e1; subst e3; subst e4; subst e5; exact wMd_key e2 hl x0 x1 x2 x3 x4 S h)
/-! MatchPipeModel.keep(I)V -/
def yMd_keep : MethodName := ⟨"MatchPipeModel", "keep", "(I)V"⟩
def tMd_keep : tM := (prog_14_method_31_code, "MatchPipeModel", 2, "keep", none, [])
def rMd_keep : Room := { frames := 0, cells := 0, slots := 0, locals := 0 }
theorem kMd_keep : cOf yMd_keep tMd_keep ∈ gT := gT_in 1545 (by decide +kernel) rfl
theorem iMd_keep : Cond.initialized yMd_keep.cls ∈ gT := gT_in 68 (by decide +kernel) rfl
theorem mMd_keep : okM yMd_keep 1 := ⟨by decide, by decide, by unfold nPar; decide +kernel⟩
theorem nMd_keep : Cond.instanceMethod yMd_keep ∈ gT := gT_in 1544 (by decide +kernel) rfl
theorem lMd_keep : Cond.selects "MatchPipeModel" yMd_keep yMd_keep ∈ gT := gT_in 34 (by decide +kernel) rfl
def fMd_keep (x0 : Nat) (x1 : Int32) (S : Sx) : Option (Sx) :=
    (gX S 12 60 x0).bind fun v1 =>
    (gI S 12 53 x0).bind fun v3 =>
    (qI S v1 v3 x1).bind fun S5 =>
    (gX S5 12 61 x0).bind fun v7 =>
    (gI S5 12 53 x0).bind fun v9 =>
    (gI S5 12 48 x0).bind fun v11 =>
    (qI S5 v7 (4 * v9) v11).bind fun S13 =>
    (gX S13 12 61 x0).bind fun v15 =>
    (gI S13 12 53 x0).bind fun v17 =>
    (gI S13 12 49 x0).bind fun v19 =>
    (qI S13 v15 ((4 * v17) + 1) v19).bind fun S21 =>
    (gX S21 12 61 x0).bind fun v23 =>
    (gI S21 12 53 x0).bind fun v25 =>
    (gI S21 12 50 x0).bind fun v27 =>
    (qI S21 v23 ((4 * v25) + 2) v27).bind fun S29 =>
    (gX S29 12 61 x0).bind fun v31 =>
    (gI S29 12 53 x0).bind fun v33 =>
    (gI S29 12 51 x0).bind fun v35 =>
    (qI S29 v31 ((4 * v33) + 3) v35).bind fun S37 =>
    some S37
set_option maxRecDepth 100000 in
set_option maxHeartbeats 4000000 in
theorem wMd_keep {Γ : vG} (hR : gR Γ = rMd_keep) (hl : (gl Γ).flags = pinnedFlags ++ [noTraceFlag]) (x0 : Nat) (x1 : Int32) (S : Sx) {X : Sx} (h : fMd_keep x0 x1 S = some X) : vV Γ tMd_keep (mQ Γ 0 0 0 none X) S 0 0 0 [(0, .ref x0), (1, .int x1)] [] := by
  unfold fMd_keep at h
  refine v_aload_n (pc := 0) (show decode (tC tMd_keep) 0 = .ok (.aload_n 0, 1) by decide +kernel) 0 rfl rfl ?_
  obtain ⟨v1, e2, h⟩ := ob h
  refine v_getX (pc := 1) oF_Md_134 e2 (show decode (tC tMd_keep) 1 = .ok (.getfield 134, 3) by decide +kernel) ?_
  refine v_aload_n (pc := 4) (show decode (tC tMd_keep) 4 = .ok (.aload_n 0, 1) by decide +kernel) 0 rfl rfl ?_
  obtain ⟨v3, e4, h⟩ := ob h
  refine v_getI (pc := 5) oF_Md_229 (by decide) e4 (show decode (tC tMd_keep) 5 = .ok (.getfield 229, 3) by decide +kernel) ?_
  refine v_iload_n (pc := 8) (show decode (tC tMd_keep) 8 = .ok (.iload_n 1, 1) by decide +kernel) 1 rfl rfl ?_
  obtain ⟨S5, e6, h⟩ := ob h
  refine v_iast (pc := 9) e6 (show decode (tC tMd_keep) 9 = .ok (.iastore, 1) by decide +kernel) ?_
  refine v_aload_n (pc := 10) (show decode (tC tMd_keep) 10 = .ok (.aload_n 0, 1) by decide +kernel) 0 rfl rfl ?_
  obtain ⟨v7, e8, h⟩ := ob h
  refine v_getX (pc := 11) oF_Md_137 e8 (show decode (tC tMd_keep) 11 = .ok (.getfield 137, 3) by decide +kernel) ?_
  refine v_iconst (pc := 14) (v := 4) (show decode (tC tMd_keep) 14 = .ok (.iconst 4, 1) by decide +kernel) (by decide) ?_
  refine v_aload_n (pc := 15) (show decode (tC tMd_keep) 15 = .ok (.aload_n 0, 1) by decide +kernel) 0 rfl rfl ?_
  obtain ⟨v9, e10, h⟩ := ob h
  refine v_getI (pc := 16) oF_Md_229 (by decide) e10 (show decode (tC tMd_keep) 16 = .ok (.getfield 229, 3) by decide +kernel) ?_
  refine v_imul (pc := 19) (show decode (tC tMd_keep) 19 = .ok (.imul, 1) by decide +kernel) ?_
  refine v_aload_n (pc := 20) (show decode (tC tMd_keep) 20 = .ok (.aload_n 0, 1) by decide +kernel) 0 rfl rfl ?_
  obtain ⟨v11, e12, h⟩ := ob h
  refine v_getI (pc := 21) oF_Md_214 (by decide) e12 (show decode (tC tMd_keep) 21 = .ok (.getfield 214, 3) by decide +kernel) ?_
  obtain ⟨S13, e14, h⟩ := ob h
  refine v_iast (pc := 24) e14 (show decode (tC tMd_keep) 24 = .ok (.iastore, 1) by decide +kernel) ?_
  refine v_aload_n (pc := 25) (show decode (tC tMd_keep) 25 = .ok (.aload_n 0, 1) by decide +kernel) 0 rfl rfl ?_
  obtain ⟨v15, e16, h⟩ := ob h
  refine v_getX (pc := 26) oF_Md_137 e16 (show decode (tC tMd_keep) 26 = .ok (.getfield 137, 3) by decide +kernel) ?_
  refine v_iconst (pc := 29) (v := 4) (show decode (tC tMd_keep) 29 = .ok (.iconst 4, 1) by decide +kernel) (by decide) ?_
  refine v_aload_n (pc := 30) (show decode (tC tMd_keep) 30 = .ok (.aload_n 0, 1) by decide +kernel) 0 rfl rfl ?_
  obtain ⟨v17, e18, h⟩ := ob h
  refine v_getI (pc := 31) oF_Md_229 (by decide) e18 (show decode (tC tMd_keep) 31 = .ok (.getfield 229, 3) by decide +kernel) ?_
  refine v_imul (pc := 34) (show decode (tC tMd_keep) 34 = .ok (.imul, 1) by decide +kernel) ?_
  refine v_iconst (pc := 35) (v := 1) (show decode (tC tMd_keep) 35 = .ok (.iconst 1, 1) by decide +kernel) (by decide) ?_
  refine v_iadd (pc := 36) (show decode (tC tMd_keep) 36 = .ok (.iadd, 1) by decide +kernel) ?_
  refine v_aload_n (pc := 37) (show decode (tC tMd_keep) 37 = .ok (.aload_n 0, 1) by decide +kernel) 0 rfl rfl ?_
  obtain ⟨v19, e20, h⟩ := ob h
  refine v_getI (pc := 38) oF_Md_217 (by decide) e20 (show decode (tC tMd_keep) 38 = .ok (.getfield 217, 3) by decide +kernel) ?_
  obtain ⟨S21, e22, h⟩ := ob h
  refine v_iast (pc := 41) e22 (show decode (tC tMd_keep) 41 = .ok (.iastore, 1) by decide +kernel) ?_
  refine v_aload_n (pc := 42) (show decode (tC tMd_keep) 42 = .ok (.aload_n 0, 1) by decide +kernel) 0 rfl rfl ?_
  obtain ⟨v23, e24, h⟩ := ob h
  refine v_getX (pc := 43) oF_Md_137 e24 (show decode (tC tMd_keep) 43 = .ok (.getfield 137, 3) by decide +kernel) ?_
  refine v_iconst (pc := 46) (v := 4) (show decode (tC tMd_keep) 46 = .ok (.iconst 4, 1) by decide +kernel) (by decide) ?_
  refine v_aload_n (pc := 47) (show decode (tC tMd_keep) 47 = .ok (.aload_n 0, 1) by decide +kernel) 0 rfl rfl ?_
  obtain ⟨v25, e26, h⟩ := ob h
  refine v_getI (pc := 48) oF_Md_229 (by decide) e26 (show decode (tC tMd_keep) 48 = .ok (.getfield 229, 3) by decide +kernel) ?_
  refine v_imul (pc := 51) (show decode (tC tMd_keep) 51 = .ok (.imul, 1) by decide +kernel) ?_
  refine v_iconst (pc := 52) (v := 2) (show decode (tC tMd_keep) 52 = .ok (.iconst 2, 1) by decide +kernel) (by decide) ?_
  refine v_iadd (pc := 53) (show decode (tC tMd_keep) 53 = .ok (.iadd, 1) by decide +kernel) ?_
  refine v_aload_n (pc := 54) (show decode (tC tMd_keep) 54 = .ok (.aload_n 0, 1) by decide +kernel) 0 rfl rfl ?_
  obtain ⟨v27, e28, h⟩ := ob h
  refine v_getI (pc := 55) oF_Md_220 (by decide) e28 (show decode (tC tMd_keep) 55 = .ok (.getfield 220, 3) by decide +kernel) ?_
  obtain ⟨S29, e30, h⟩ := ob h
  refine v_iast (pc := 58) e30 (show decode (tC tMd_keep) 58 = .ok (.iastore, 1) by decide +kernel) ?_
  refine v_aload_n (pc := 59) (show decode (tC tMd_keep) 59 = .ok (.aload_n 0, 1) by decide +kernel) 0 rfl rfl ?_
  obtain ⟨v31, e32, h⟩ := ob h
  refine v_getX (pc := 60) oF_Md_137 e32 (show decode (tC tMd_keep) 60 = .ok (.getfield 137, 3) by decide +kernel) ?_
  refine v_iconst (pc := 63) (v := 4) (show decode (tC tMd_keep) 63 = .ok (.iconst 4, 1) by decide +kernel) (by decide) ?_
  refine v_aload_n (pc := 64) (show decode (tC tMd_keep) 64 = .ok (.aload_n 0, 1) by decide +kernel) 0 rfl rfl ?_
  obtain ⟨v33, e34, h⟩ := ob h
  refine v_getI (pc := 65) oF_Md_229 (by decide) e34 (show decode (tC tMd_keep) 65 = .ok (.getfield 229, 3) by decide +kernel) ?_
  refine v_imul (pc := 68) (show decode (tC tMd_keep) 68 = .ok (.imul, 1) by decide +kernel) ?_
  refine v_iconst (pc := 69) (v := 3) (show decode (tC tMd_keep) 69 = .ok (.iconst 3, 1) by decide +kernel) (by decide) ?_
  refine v_iadd (pc := 70) (show decode (tC tMd_keep) 70 = .ok (.iadd, 1) by decide +kernel) ?_
  refine v_aload_n (pc := 71) (show decode (tC tMd_keep) 71 = .ok (.aload_n 0, 1) by decide +kernel) 0 rfl rfl ?_
  obtain ⟨v35, e36, h⟩ := ob h
  refine v_getI (pc := 72) oF_Md_223 (by decide) e36 (show decode (tC tMd_keep) 72 = .ok (.getfield 223, 3) by decide +kernel) ?_
  obtain ⟨S37, e38, h⟩ := ob h
  refine v_iast (pc := 75) e38 (show decode (tC tMd_keep) 75 = .ok (.iastore, 1) by decide +kernel) ?_
  obtain rfl := Option.some.inj h
  refine v_wide (ce2 := 0) (sl2 := 0) (by decide) (by decide) ?_
  exact v_vret (pc := 76) rfl (show decode (tC tMd_keep) 76 = .ok (.return_, 1) by decide +kernel)
theorem cMd_keep {l : Launch} (hl : l.flags = pinnedFlags ++ [noTraceFlag]) {D : va_G} {dA : Nat → ClassId} {B : Nat} {x0 : Nat} {x1 : Int32} {S : Sx} {X : Sx} (h : fMd_keep x0 x1 S = some X) : Mx l yMd_keep tMd_keep rMd_keep 0 0 D dA B S [.ref x0, .int x1] 0 none X :=
  mx_of hl (by decide) rfl rfl (Nat.le_of_ble_eq_true rfl) (fun Γ e1 e2 e3 e4 e5 => by subst e1; subst e3; subst e4; subst e5; exact wMd_keep e2 hl x0 x1 S h)
/-! MatchPipeModel.insert(IIIII)I -/
def yMd_insert : MethodName := ⟨"MatchPipeModel", "insert", "(IIIII)I"⟩
def tMd_insert : tM := (prog_14_method_32_code, "MatchPipeModel", 6, "insert", some .int, [])
def rMd_insert : Room := { frames := 1, cells := 0, slots := 0, locals := 21 }
theorem kMd_insert : cOf yMd_insert tMd_insert ∈ gT := gT_in 1541 (by decide +kernel) rfl
theorem iMd_insert : Cond.initialized yMd_insert.cls ∈ gT := gT_in 68 (by decide +kernel) rfl
theorem mMd_insert : okM yMd_insert 5 := ⟨by decide, by decide, by unfold nPar; decide +kernel⟩
theorem nMd_insert : Cond.instanceMethod yMd_insert ∈ gT := gT_in 1539 (by decide +kernel) rfl
theorem lMd_insert : Cond.selects "MatchPipeModel" yMd_insert yMd_insert ∈ gT := gT_in 1540 (by decide +kernel) rfl
def fMd_insert_37  (x0 : Nat) (x1 : Int32) (x2 : Int32) (x3 : Int32) (x4 : Int32) (x5 : Int32) (z0 : Int32) (z1 : Nat) (S : Sx) : Option (Int32 × Sx) :=
    (pI S 12 0 z1 z0).bind fun S1 =>
    (gI S1 12 0 x0).bind fun v3 =>
    if v3 ≤ 0 then
    ((ckd S1 x0 12).bind fun _ =>
    (fMd_keep x0 x1 S1).bind fun S7 =>
    (gX S7 12 62 x0).bind fun v8 =>
    (gI S7 12 53 x0).bind fun v10 =>
    (qI S7 v8 v10 x2).bind fun S12 =>
    (gX S12 12 63 x0).bind fun v14 =>
    (gI S12 12 53 x0).bind fun v16 =>
    (qI S12 v14 v16 x3).bind fun S18 =>
    (gX S18 12 64 x0).bind fun v20 =>
    (gI S18 12 53 x0).bind fun v22 =>
    (qI S18 v20 v22 x4).bind fun S24 =>
    (gX S24 12 65 x0).bind fun v26 =>
    (gI S24 12 53 x0).bind fun v28 =>
    (qI S24 v26 v28 x5).bind fun S30 =>
    (ckd S30 x0 12).bind fun _ =>
    bd2 (fMd_comes x0 1 S30) fun r34 S35 =>
    some (r34, S35))
    else
    (some (0, S1))
set_option maxRecDepth 100000 in
set_option maxHeartbeats 4000000 in
theorem wMd_insert_37 {Γ : vG} (hR : gR Γ = rMd_insert) (hl : (gl Γ).flags = pinnedFlags ++ [noTraceFlag]) {X : Int32 × Sx}  : ∀ (x0 : Nat) (x1 : Int32) (x2 : Int32) (x3 : Int32) (x4 : Int32) (x5 : Int32) (z0 : Int32) (z1 : Nat) (S : Sx), fMd_insert_37  x0 x1 x2 x3 x4 x5 z0 z1 S = some X → vV Γ tMd_insert (mQ Γ 0 0 0 (some (.int X.1)) X.2) S 0 0 37 [(0, .ref x0), (1, .int x1), (2, .int x2), (3, .int x3), (4, .int x4), (5, .int x5)] [.int z0, .ref z1] := by
  intro x0 x1 x2 x3 x4 x5 z0 z1 S h
  unfold fMd_insert_37 at h
  obtain ⟨S1, e2, h⟩ := ob h
  refine v_putI (pc := 37) oF_Md_183 (fin_ok (kd := 12) (k := 0) (by decide +kernel)) e2 (show decode (tC tMd_insert) 37 = .ok (.putfield 183, 3) by decide +kernel) ?_
  refine v_aload_n (pc := 40) (show decode (tC tMd_insert) 40 = .ok (.aload_n 0, 1) by decide +kernel) 0 rfl rfl ?_
  obtain ⟨v3, e4, h⟩ := ob h
  refine v_getI (pc := 41) oF_Md_183 (by decide) e4 (show decode (tC tMd_insert) 41 = .ok (.getfield 183, 3) by decide +kernel) ?_
  refine v_if_le (pc := 44) 49 (show decode (tC tMd_insert) 44 = .ok (.ifCond .le 5, 3) by decide +kernel) (by decide) (fun c => ?_) (fun c => ?_)
  · replace h := ite_t c h
    refine v_aload_n (pc := 49) (show decode (tC tMd_insert) 49 = .ok (.aload_n 0, 1) by decide +kernel) 0 rfl rfl ?_
    refine v_iload_n (pc := 50) (show decode (tC tMd_insert) 50 = .ok (.iload_n 1, 1) by decide +kernel) 1 rfl rfl ?_
    obtain ⟨_, e6, h⟩ := ob h
    obtain ⟨S7, e5, h⟩ := ob h
    refine v_call (pc := 51) (v := none) (y := yMd_keep) (θ' := tMd_keep) (rm := rMd_keep) (av := [.ref x0, .int x1]) (st := []) (cMd_keep (l := gl Γ) hl e5) kMd_keep iMd_keep (iv_virt (y := yMd_keep) (θ' := tMd_keep) (kd := 12) (As := [.int x1]) rfl (ckd_of e6) kMd_keep (gT_in 1542 (by decide +kernel) rfl) nMd_keep lMd_keep mMd_keep rfl (show decode (tC tMd_insert) 51 = .ok (.invokevirtual 280, 3) by decide +kernel)) ⟨by rw [hR]; decide, by rw [hR]; decide, by rw [hR]; decide, by rw [hR]; decide⟩ (Nat.le_of_ble_eq_true rfl) ?_
    refine v_aload_n (pc := 54) (show decode (tC tMd_insert) 54 = .ok (.aload_n 0, 1) by decide +kernel) 0 rfl rfl ?_
    obtain ⟨v8, e9, h⟩ := ob h
    refine v_getX (pc := 55) oF_Md_140 e9 (show decode (tC tMd_insert) 55 = .ok (.getfield 140, 3) by decide +kernel) ?_
    refine v_aload_n (pc := 58) (show decode (tC tMd_insert) 58 = .ok (.aload_n 0, 1) by decide +kernel) 0 rfl rfl ?_
    obtain ⟨v10, e11, h⟩ := ob h
    refine v_getI (pc := 59) oF_Md_229 (by decide) e11 (show decode (tC tMd_insert) 59 = .ok (.getfield 229, 3) by decide +kernel) ?_
    refine v_iload_n (pc := 62) (show decode (tC tMd_insert) 62 = .ok (.iload_n 2, 1) by decide +kernel) 2 rfl rfl ?_
    obtain ⟨S12, e13, h⟩ := ob h
    refine v_iast (pc := 63) e13 (show decode (tC tMd_insert) 63 = .ok (.iastore, 1) by decide +kernel) ?_
    refine v_aload_n (pc := 64) (show decode (tC tMd_insert) 64 = .ok (.aload_n 0, 1) by decide +kernel) 0 rfl rfl ?_
    obtain ⟨v14, e15, h⟩ := ob h
    refine v_getX (pc := 65) oF_Md_143 e15 (show decode (tC tMd_insert) 65 = .ok (.getfield 143, 3) by decide +kernel) ?_
    refine v_aload_n (pc := 68) (show decode (tC tMd_insert) 68 = .ok (.aload_n 0, 1) by decide +kernel) 0 rfl rfl ?_
    obtain ⟨v16, e17, h⟩ := ob h
    refine v_getI (pc := 69) oF_Md_229 (by decide) e17 (show decode (tC tMd_insert) 69 = .ok (.getfield 229, 3) by decide +kernel) ?_
    refine v_iload_n (pc := 72) (show decode (tC tMd_insert) 72 = .ok (.iload_n 3, 1) by decide +kernel) 3 rfl rfl ?_
    obtain ⟨S18, e19, h⟩ := ob h
    refine v_iast (pc := 73) e19 (show decode (tC tMd_insert) 73 = .ok (.iastore, 1) by decide +kernel) ?_
    refine v_aload_n (pc := 74) (show decode (tC tMd_insert) 74 = .ok (.aload_n 0, 1) by decide +kernel) 0 rfl rfl ?_
    obtain ⟨v20, e21, h⟩ := ob h
    refine v_getX (pc := 75) oF_Md_146 e21 (show decode (tC tMd_insert) 75 = .ok (.getfield 146, 3) by decide +kernel) ?_
    refine v_aload_n (pc := 78) (show decode (tC tMd_insert) 78 = .ok (.aload_n 0, 1) by decide +kernel) 0 rfl rfl ?_
    obtain ⟨v22, e23, h⟩ := ob h
    refine v_getI (pc := 79) oF_Md_229 (by decide) e23 (show decode (tC tMd_insert) 79 = .ok (.getfield 229, 3) by decide +kernel) ?_
    refine v_iload (pc := 82) (show decode (tC tMd_insert) 82 = .ok (.iload 4, 2) by decide +kernel) 4 rfl ?_
    obtain ⟨S24, e25, h⟩ := ob h
    refine v_iast (pc := 84) e25 (show decode (tC tMd_insert) 84 = .ok (.iastore, 1) by decide +kernel) ?_
    refine v_aload_n (pc := 85) (show decode (tC tMd_insert) 85 = .ok (.aload_n 0, 1) by decide +kernel) 0 rfl rfl ?_
    obtain ⟨v26, e27, h⟩ := ob h
    refine v_getX (pc := 86) oF_Md_149 e27 (show decode (tC tMd_insert) 86 = .ok (.getfield 149, 3) by decide +kernel) ?_
    refine v_aload_n (pc := 89) (show decode (tC tMd_insert) 89 = .ok (.aload_n 0, 1) by decide +kernel) 0 rfl rfl ?_
    obtain ⟨v28, e29, h⟩ := ob h
    refine v_getI (pc := 90) oF_Md_229 (by decide) e29 (show decode (tC tMd_insert) 90 = .ok (.getfield 229, 3) by decide +kernel) ?_
    refine v_iload (pc := 93) (show decode (tC tMd_insert) 93 = .ok (.iload 5, 2) by decide +kernel) 5 rfl ?_
    obtain ⟨S30, e31, h⟩ := ob h
    refine v_iast (pc := 95) e31 (show decode (tC tMd_insert) 95 = .ok (.iastore, 1) by decide +kernel) ?_
    refine v_aload_n (pc := 96) (show decode (tC tMd_insert) 96 = .ok (.aload_n 0, 1) by decide +kernel) 0 rfl rfl ?_
    refine v_iconst (pc := 97) (v := 1) (show decode (tC tMd_insert) 97 = .ok (.iconst 1, 1) by decide +kernel) (by decide) ?_
    obtain ⟨_, e33, h⟩ := ob h
    obtain ⟨r34, S35, e32, h⟩ := ob2 h
    refine v_call (pc := 98) (v := (some (.int r34))) (y := yMd_comes) (θ' := tMd_comes) (rm := rMd_comes) (av := [.ref x0, .int 1]) (st := []) (cMd_comes (l := gl Γ) hl e32) kMd_comes iMd_comes (iv_virt (y := yMd_comes) (θ' := tMd_comes) (kd := 12) (As := [.int 1]) rfl (ckd_of e33) kMd_comes (gT_in 1530 (by decide +kernel) rfl) nMd_comes lMd_comes mMd_comes rfl (show decode (tC tMd_insert) 98 = .ok (.invokevirtual 278, 3) by decide +kernel)) ⟨by rw [hR]; decide, by rw [hR]; decide, by rw [hR]; decide, by rw [hR]; decide⟩ (Nat.le_of_ble_eq_true rfl) ?_
    obtain rfl := Option.some.inj h
    refine v_wide (ce2 := 0) (sl2 := 0) (by decide) (by decide) ?_
    exact v_iret (pc := 101) rfl (show decode (tC tMd_insert) 101 = .ok (.ireturn, 1) by decide +kernel)
  · replace h := ite_f c h
    refine v_iconst (pc := 47) (v := 0) (show decode (tC tMd_insert) 47 = .ok (.iconst 0, 1) by decide +kernel) (by decide) ?_
    obtain rfl := Option.some.inj h
    refine v_wide (ce2 := 0) (sl2 := 0) (by decide) (by decide) ?_
    exact v_iret (pc := 48) rfl (show decode (tC tMd_insert) 48 = .ok (.ireturn, 1) by decide +kernel)
def fMd_insert_32  (x0 : Nat) (x1 : Int32) (x2 : Int32) (x3 : Int32) (x4 : Int32) (x5 : Int32) (z0 : Nat) (S : Sx) : Option (Int32 × Sx) :=
    fMd_insert_37  x0 x1 x2 x3 x4 x5 2 z0 S
set_option maxRecDepth 100000 in
set_option maxHeartbeats 4000000 in
theorem wMd_insert_32 {Γ : vG} (hR : gR Γ = rMd_insert) (hl : (gl Γ).flags = pinnedFlags ++ [noTraceFlag]) {X : Int32 × Sx}  : ∀ (x0 : Nat) (x1 : Int32) (x2 : Int32) (x3 : Int32) (x4 : Int32) (x5 : Int32) (z0 : Nat) (S : Sx), fMd_insert_32  x0 x1 x2 x3 x4 x5 z0 S = some X → vV Γ tMd_insert (mQ Γ 0 0 0 (some (.int X.1)) X.2) S 0 0 32 [(0, .ref x0), (1, .int x1), (2, .int x2), (3, .int x3), (4, .int x4), (5, .int x5)] [.ref z0] := by
  intro x0 x1 x2 x3 x4 x5 z0 S h
  unfold fMd_insert_32 at h
  refine v_iconst (pc := 32) (v := 2) (show decode (tC tMd_insert) 32 = .ok (.iconst 2, 1) by decide +kernel) (by decide) ?_
  refine v_goto (pc := 33) 37 (show decode (tC tMd_insert) 33 = .ok (.goto 4, 3) by decide +kernel) (by decide) ?_
  exact wMd_insert_37 hR hl  x0 x1 x2 x3 x4 x5 2 z0 S h
def fMd_insert (x0 : Nat) (x1 : Int32) (x2 : Int32) (x3 : Int32) (x4 : Int32) (x5 : Int32) (S : Sx) : Option (Int32 × Sx) :=
    (gI S 12 4 x0).bind fun v1 =>
    bd2 (fMd_in x1 v1 S) fun r4 S5 =>
    if r4 = 0 then
    (fMd_insert_37  x0 x1 x2 x3 x4 x5 1 x0 S5)
    else
    ((gI S5 12 7 x0).bind fun v6 =>
    if v6 = 0 then
    (fMd_insert_32  x0 x1 x2 x3 x4 x5 x0 S5)
    else
    ((gI S5 12 53 x0).bind fun v8 =>
    if v8 = 40 then
    (fMd_insert_32  x0 x1 x2 x3 x4 x5 x0 S5)
    else
    (fMd_insert_37  x0 x1 x2 x3 x4 x5 0 x0 S5)))
set_option maxRecDepth 100000 in
set_option maxHeartbeats 4000000 in
theorem wMd_insert {Γ : vG} (hR : gR Γ = rMd_insert) (hl : (gl Γ).flags = pinnedFlags ++ [noTraceFlag]) (x0 : Nat) (x1 : Int32) (x2 : Int32) (x3 : Int32) (x4 : Int32) (x5 : Int32) (S : Sx) {X : Int32 × Sx} (h : fMd_insert x0 x1 x2 x3 x4 x5 S = some X) : vV Γ tMd_insert (mQ Γ 0 0 0 (some (.int X.1)) X.2) S 0 0 0 [(0, .ref x0), (1, .int x1), (2, .int x2), (3, .int x3), (4, .int x4), (5, .int x5)] [] := by
  unfold fMd_insert at h
  refine v_aload_n (pc := 0) (show decode (tC tMd_insert) 0 = .ok (.aload_n 0, 1) by decide +kernel) 0 rfl rfl ?_
  refine v_iload_n (pc := 1) (show decode (tC tMd_insert) 1 = .ok (.iload_n 1, 1) by decide +kernel) 1 rfl rfl ?_
  refine v_aload_n (pc := 2) (show decode (tC tMd_insert) 2 = .ok (.aload_n 0, 1) by decide +kernel) 0 rfl rfl ?_
  obtain ⟨v1, e2, h⟩ := ob h
  refine v_getI (pc := 3) oF_Md_195 (by decide) e2 (show decode (tC tMd_insert) 3 = .ok (.getfield 195, 3) by decide +kernel) ?_
  obtain ⟨r4, S5, e3, h⟩ := ob2 h
  refine v_call (pc := 6) (v := (some (.int r4))) (y := yMd_in) (θ' := tMd_in) (rm := rMd_in) (av := [.int x1, .int v1]) (st := [.ref x0]) (cMd_in (l := gl Γ) hl e3) kMd_in iMd_in (iv_static (y := yMd_in) (θ' := tMd_in) (n := 2) (As := [.int x1, .int v1]) kMd_in (gT_in 1437 (by decide +kernel) rfl) sMd_in iMd_in mMd_in rfl (show decode (tC tMd_insert) 6 = .ok (.invokestatic 241, 3) by decide +kernel)) ⟨by rw [hR]; decide, by rw [hR]; decide, by rw [hR]; decide, by rw [hR]; decide⟩ (Nat.le_of_ble_eq_true rfl) ?_
  refine v_if_ne (pc := 9) 16 (show decode (tC tMd_insert) 9 = .ok (.ifCond .ne 7, 3) by decide +kernel) (by decide) (fun c => ?_) (fun c => ?_)
  · replace h := ite_f c h
    refine v_aload_n (pc := 16) (show decode (tC tMd_insert) 16 = .ok (.aload_n 0, 1) by decide +kernel) 0 rfl rfl ?_
    obtain ⟨v6, e7, h⟩ := ob h
    refine v_getI (pc := 17) oF_Md_204 (by decide) e7 (show decode (tC tMd_insert) 17 = .ok (.getfield 204, 3) by decide +kernel) ?_
    refine v_if_eq (pc := 20) 32 (show decode (tC tMd_insert) 20 = .ok (.ifCond .eq 12, 3) by decide +kernel) (by decide) (fun c => ?_) (fun c => ?_)
    · replace h := ite_t c h
      exact wMd_insert_32 hR hl  x0 x1 x2 x3 x4 x5 x0 S5 h
    · replace h := ite_f c h
      refine v_aload_n (pc := 23) (show decode (tC tMd_insert) 23 = .ok (.aload_n 0, 1) by decide +kernel) 0 rfl rfl ?_
      obtain ⟨v8, e9, h⟩ := ob h
      refine v_getI (pc := 24) oF_Md_229 (by decide) e9 (show decode (tC tMd_insert) 24 = .ok (.getfield 229, 3) by decide +kernel) ?_
      refine v_bipush (pc := 27) (v := 40) (show decode (tC tMd_insert) 27 = .ok (.bipush 40, 2) by decide +kernel) (by decide) ?_
      refine v_icmp_ne (pc := 29) 36 (show decode (tC tMd_insert) 29 = .ok (.if_icmp .ne 7, 3) by decide +kernel) (by decide) (fun c => ?_) (fun c => ?_)
      · replace h := ite_f c h
        refine v_iconst (pc := 36) (v := 0) (show decode (tC tMd_insert) 36 = .ok (.iconst 0, 1) by decide +kernel) (by decide) ?_
        exact wMd_insert_37 hR hl  x0 x1 x2 x3 x4 x5 0 x0 S5 h
      · replace h := ite_t c h
        exact wMd_insert_32 hR hl  x0 x1 x2 x3 x4 x5 x0 S5 h
  · replace h := ite_t c h
    refine v_iconst (pc := 12) (v := 1) (show decode (tC tMd_insert) 12 = .ok (.iconst 1, 1) by decide +kernel) (by decide) ?_
    refine v_goto (pc := 13) 37 (show decode (tC tMd_insert) 13 = .ok (.goto 24, 3) by decide +kernel) (by decide) ?_
    exact wMd_insert_37 hR hl  x0 x1 x2 x3 x4 x5 1 x0 S5 h
theorem cMd_insert {l : Launch} (hl : l.flags = pinnedFlags ++ [noTraceFlag]) {D : va_G} {dA : Nat → ClassId} {B : Nat} {x0 : Nat} {x1 : Int32} {x2 : Int32} {x3 : Int32} {x4 : Int32} {x5 : Int32} {S : Sx} {X : Int32 × Sx} (h : fMd_insert x0 x1 x2 x3 x4 x5 S = some X) : Mx l yMd_insert tMd_insert rMd_insert 0 0 D dA B S [.ref x0, .int x1, .int x2, .int x3, .int x4, .int x5] 0 (some (.int X.1)) X.2 :=
  mx_of hl (by decide) rfl rfl (Nat.le_of_ble_eq_true rfl) (fun Γ e1 e2 e3 e4 e5 => by subst e1; subst e3; subst e4; subst e5; exact wMd_insert e2 hl x0 x1 x2 x3 x4 x5 S h)
/-! MatchPipeModel.remove(I)I -/
def yMd_remove : MethodName := ⟨"MatchPipeModel", "remove", "(I)I"⟩
def tMd_remove : tM := (prog_14_method_33_code, "MatchPipeModel", 2, "remove", some .int, [])
def rMd_remove : Room := { frames := 1, cells := 0, slots := 0, locals := 21 }
theorem kMd_remove : cOf yMd_remove tMd_remove ∈ gT := gT_in 1549 (by decide +kernel) rfl
theorem iMd_remove : Cond.initialized yMd_remove.cls ∈ gT := gT_in 68 (by decide +kernel) rfl
theorem mMd_remove : okM yMd_remove 1 := ⟨by decide, by decide, by unfold nPar; decide +kernel⟩
theorem nMd_remove : Cond.instanceMethod yMd_remove ∈ gT := gT_in 1547 (by decide +kernel) rfl
theorem lMd_remove : Cond.selects "MatchPipeModel" yMd_remove yMd_remove ∈ gT := gT_in 1548 (by decide +kernel) rfl
def fMd_remove_37  (x0 : Nat) (x1 : Int32) (z0 : Int32) (z1 : Nat) (S : Sx) : Option (Int32 × Sx) :=
    (pI S 12 0 z1 z0).bind fun S1 =>
    (gI S1 12 0 x0).bind fun v3 =>
    if v3 ≤ 0 then
    ((ckd S1 x0 12).bind fun _ =>
    (fMd_keep x0 x1 S1).bind fun S7 =>
    (ckd S7 x0 12).bind fun _ =>
    bd2 (fMd_comes x0 2 S7) fun r10 S11 =>
    some (r10, S11))
    else
    (some (0, S1))
set_option maxRecDepth 100000 in
set_option maxHeartbeats 4000000 in
theorem wMd_remove_37 {Γ : vG} (hR : gR Γ = rMd_remove) (hl : (gl Γ).flags = pinnedFlags ++ [noTraceFlag]) {X : Int32 × Sx}  : ∀ (x0 : Nat) (x1 : Int32) (z0 : Int32) (z1 : Nat) (S : Sx), fMd_remove_37  x0 x1 z0 z1 S = some X → vV Γ tMd_remove (mQ Γ 0 0 0 (some (.int X.1)) X.2) S 0 0 37 [(0, .ref x0), (1, .int x1)] [.int z0, .ref z1] := by
  intro x0 x1 z0 z1 S h
  unfold fMd_remove_37 at h
  obtain ⟨S1, e2, h⟩ := ob h
  refine v_putI (pc := 37) oF_Md_183 (fin_ok (kd := 12) (k := 0) (by decide +kernel)) e2 (show decode (tC tMd_remove) 37 = .ok (.putfield 183, 3) by decide +kernel) ?_
  refine v_aload_n (pc := 40) (show decode (tC tMd_remove) 40 = .ok (.aload_n 0, 1) by decide +kernel) 0 rfl rfl ?_
  obtain ⟨v3, e4, h⟩ := ob h
  refine v_getI (pc := 41) oF_Md_183 (by decide) e4 (show decode (tC tMd_remove) 41 = .ok (.getfield 183, 3) by decide +kernel) ?_
  refine v_if_le (pc := 44) 49 (show decode (tC tMd_remove) 44 = .ok (.ifCond .le 5, 3) by decide +kernel) (by decide) (fun c => ?_) (fun c => ?_)
  · replace h := ite_t c h
    refine v_aload_n (pc := 49) (show decode (tC tMd_remove) 49 = .ok (.aload_n 0, 1) by decide +kernel) 0 rfl rfl ?_
    refine v_iload_n (pc := 50) (show decode (tC tMd_remove) 50 = .ok (.iload_n 1, 1) by decide +kernel) 1 rfl rfl ?_
    obtain ⟨_, e6, h⟩ := ob h
    obtain ⟨S7, e5, h⟩ := ob h
    refine v_call (pc := 51) (v := none) (y := yMd_keep) (θ' := tMd_keep) (rm := rMd_keep) (av := [.ref x0, .int x1]) (st := []) (cMd_keep (l := gl Γ) hl e5) kMd_keep iMd_keep (iv_virt (y := yMd_keep) (θ' := tMd_keep) (kd := 12) (As := [.int x1]) rfl (ckd_of e6) kMd_keep (gT_in 1542 (by decide +kernel) rfl) nMd_keep lMd_keep mMd_keep rfl (show decode (tC tMd_remove) 51 = .ok (.invokevirtual 280, 3) by decide +kernel)) ⟨by rw [hR]; decide, by rw [hR]; decide, by rw [hR]; decide, by rw [hR]; decide⟩ (Nat.le_of_ble_eq_true rfl) ?_
    refine v_aload_n (pc := 54) (show decode (tC tMd_remove) 54 = .ok (.aload_n 0, 1) by decide +kernel) 0 rfl rfl ?_
    refine v_iconst (pc := 55) (v := 2) (show decode (tC tMd_remove) 55 = .ok (.iconst 2, 1) by decide +kernel) (by decide) ?_
    obtain ⟨_, e9, h⟩ := ob h
    obtain ⟨r10, S11, e8, h⟩ := ob2 h
    refine v_call (pc := 56) (v := (some (.int r10))) (y := yMd_comes) (θ' := tMd_comes) (rm := rMd_comes) (av := [.ref x0, .int 2]) (st := []) (cMd_comes (l := gl Γ) hl e8) kMd_comes iMd_comes (iv_virt (y := yMd_comes) (θ' := tMd_comes) (kd := 12) (As := [.int 2]) rfl (ckd_of e9) kMd_comes (gT_in 1530 (by decide +kernel) rfl) nMd_comes lMd_comes mMd_comes rfl (show decode (tC tMd_remove) 56 = .ok (.invokevirtual 278, 3) by decide +kernel)) ⟨by rw [hR]; decide, by rw [hR]; decide, by rw [hR]; decide, by rw [hR]; decide⟩ (Nat.le_of_ble_eq_true rfl) ?_
    obtain rfl := Option.some.inj h
    refine v_wide (ce2 := 0) (sl2 := 0) (by decide) (by decide) ?_
    exact v_iret (pc := 59) rfl (show decode (tC tMd_remove) 59 = .ok (.ireturn, 1) by decide +kernel)
  · replace h := ite_f c h
    refine v_iconst (pc := 47) (v := 0) (show decode (tC tMd_remove) 47 = .ok (.iconst 0, 1) by decide +kernel) (by decide) ?_
    obtain rfl := Option.some.inj h
    refine v_wide (ce2 := 0) (sl2 := 0) (by decide) (by decide) ?_
    exact v_iret (pc := 48) rfl (show decode (tC tMd_remove) 48 = .ok (.ireturn, 1) by decide +kernel)
def fMd_remove_32  (x0 : Nat) (x1 : Int32) (z0 : Nat) (S : Sx) : Option (Int32 × Sx) :=
    fMd_remove_37  x0 x1 2 z0 S
set_option maxRecDepth 100000 in
set_option maxHeartbeats 4000000 in
theorem wMd_remove_32 {Γ : vG} (hR : gR Γ = rMd_remove) (hl : (gl Γ).flags = pinnedFlags ++ [noTraceFlag]) {X : Int32 × Sx}  : ∀ (x0 : Nat) (x1 : Int32) (z0 : Nat) (S : Sx), fMd_remove_32  x0 x1 z0 S = some X → vV Γ tMd_remove (mQ Γ 0 0 0 (some (.int X.1)) X.2) S 0 0 32 [(0, .ref x0), (1, .int x1)] [.ref z0] := by
  intro x0 x1 z0 S h
  unfold fMd_remove_32 at h
  refine v_iconst (pc := 32) (v := 2) (show decode (tC tMd_remove) 32 = .ok (.iconst 2, 1) by decide +kernel) (by decide) ?_
  refine v_goto (pc := 33) 37 (show decode (tC tMd_remove) 33 = .ok (.goto 4, 3) by decide +kernel) (by decide) ?_
  exact wMd_remove_37 hR hl  x0 x1 2 z0 S h
def fMd_remove (x0 : Nat) (x1 : Int32) (S : Sx) : Option (Int32 × Sx) :=
    (gI S 12 4 x0).bind fun v1 =>
    bd2 (fMd_in x1 v1 S) fun r4 S5 =>
    if r4 = 0 then
    (fMd_remove_37  x0 x1 1 x0 S5)
    else
    ((gI S5 12 7 x0).bind fun v6 =>
    if v6 = 0 then
    (fMd_remove_32  x0 x1 x0 S5)
    else
    ((gI S5 12 53 x0).bind fun v8 =>
    if v8 = 40 then
    (fMd_remove_32  x0 x1 x0 S5)
    else
    (fMd_remove_37  x0 x1 0 x0 S5)))
set_option maxRecDepth 100000 in
set_option maxHeartbeats 4000000 in
theorem wMd_remove {Γ : vG} (hR : gR Γ = rMd_remove) (hl : (gl Γ).flags = pinnedFlags ++ [noTraceFlag]) (x0 : Nat) (x1 : Int32) (S : Sx) {X : Int32 × Sx} (h : fMd_remove x0 x1 S = some X) : vV Γ tMd_remove (mQ Γ 0 0 0 (some (.int X.1)) X.2) S 0 0 0 [(0, .ref x0), (1, .int x1)] [] := by
  unfold fMd_remove at h
  refine v_aload_n (pc := 0) (show decode (tC tMd_remove) 0 = .ok (.aload_n 0, 1) by decide +kernel) 0 rfl rfl ?_
  refine v_iload_n (pc := 1) (show decode (tC tMd_remove) 1 = .ok (.iload_n 1, 1) by decide +kernel) 1 rfl rfl ?_
  refine v_aload_n (pc := 2) (show decode (tC tMd_remove) 2 = .ok (.aload_n 0, 1) by decide +kernel) 0 rfl rfl ?_
  obtain ⟨v1, e2, h⟩ := ob h
  refine v_getI (pc := 3) oF_Md_195 (by decide) e2 (show decode (tC tMd_remove) 3 = .ok (.getfield 195, 3) by decide +kernel) ?_
  obtain ⟨r4, S5, e3, h⟩ := ob2 h
  refine v_call (pc := 6) (v := (some (.int r4))) (y := yMd_in) (θ' := tMd_in) (rm := rMd_in) (av := [.int x1, .int v1]) (st := [.ref x0]) (cMd_in (l := gl Γ) hl e3) kMd_in iMd_in (iv_static (y := yMd_in) (θ' := tMd_in) (n := 2) (As := [.int x1, .int v1]) kMd_in (gT_in 1437 (by decide +kernel) rfl) sMd_in iMd_in mMd_in rfl (show decode (tC tMd_remove) 6 = .ok (.invokestatic 241, 3) by decide +kernel)) ⟨by rw [hR]; decide, by rw [hR]; decide, by rw [hR]; decide, by rw [hR]; decide⟩ (Nat.le_of_ble_eq_true rfl) ?_
  refine v_if_ne (pc := 9) 16 (show decode (tC tMd_remove) 9 = .ok (.ifCond .ne 7, 3) by decide +kernel) (by decide) (fun c => ?_) (fun c => ?_)
  · replace h := ite_f c h
    refine v_aload_n (pc := 16) (show decode (tC tMd_remove) 16 = .ok (.aload_n 0, 1) by decide +kernel) 0 rfl rfl ?_
    obtain ⟨v6, e7, h⟩ := ob h
    refine v_getI (pc := 17) oF_Md_204 (by decide) e7 (show decode (tC tMd_remove) 17 = .ok (.getfield 204, 3) by decide +kernel) ?_
    refine v_if_eq (pc := 20) 32 (show decode (tC tMd_remove) 20 = .ok (.ifCond .eq 12, 3) by decide +kernel) (by decide) (fun c => ?_) (fun c => ?_)
    · replace h := ite_t c h
      exact wMd_remove_32 hR hl  x0 x1 x0 S5 h
    · replace h := ite_f c h
      refine v_aload_n (pc := 23) (show decode (tC tMd_remove) 23 = .ok (.aload_n 0, 1) by decide +kernel) 0 rfl rfl ?_
      obtain ⟨v8, e9, h⟩ := ob h
      refine v_getI (pc := 24) oF_Md_229 (by decide) e9 (show decode (tC tMd_remove) 24 = .ok (.getfield 229, 3) by decide +kernel) ?_
      refine v_bipush (pc := 27) (v := 40) (show decode (tC tMd_remove) 27 = .ok (.bipush 40, 2) by decide +kernel) (by decide) ?_
      refine v_icmp_ne (pc := 29) 36 (show decode (tC tMd_remove) 29 = .ok (.if_icmp .ne 7, 3) by decide +kernel) (by decide) (fun c => ?_) (fun c => ?_)
      · replace h := ite_f c h
        refine v_iconst (pc := 36) (v := 0) (show decode (tC tMd_remove) 36 = .ok (.iconst 0, 1) by decide +kernel) (by decide) ?_
        exact wMd_remove_37 hR hl  x0 x1 0 x0 S5 h
      · replace h := ite_t c h
        exact wMd_remove_32 hR hl  x0 x1 x0 S5 h
  · replace h := ite_t c h
    refine v_iconst (pc := 12) (v := 1) (show decode (tC tMd_remove) 12 = .ok (.iconst 1, 1) by decide +kernel) (by decide) ?_
    refine v_goto (pc := 13) 37 (show decode (tC tMd_remove) 13 = .ok (.goto 24, 3) by decide +kernel) (by decide) ?_
    exact wMd_remove_37 hR hl  x0 x1 1 x0 S5 h
theorem cMd_remove {l : Launch} (hl : l.flags = pinnedFlags ++ [noTraceFlag]) {D : va_G} {dA : Nat → ClassId} {B : Nat} {x0 : Nat} {x1 : Int32} {S : Sx} {X : Int32 × Sx} (h : fMd_remove x0 x1 S = some X) : Mx l yMd_remove tMd_remove rMd_remove 0 0 D dA B S [.ref x0, .int x1] 0 (some (.int X.1)) X.2 :=
  mx_of hl (by decide) rfl rfl (Nat.le_of_ble_eq_true rfl) (fun Γ e1 e2 e3 e4 e5 => by subst e1; subst e3; subst e4; subst e5; exact wMd_remove e2 hl x0 x1 S h)
/-! MatchPipeModel.cut(II)I -/
def yMd_cut : MethodName := ⟨"MatchPipeModel", "cut", "(II)I"⟩
def tMd_cut : tM := (prog_14_method_34_code, "MatchPipeModel", 3, "cut", some .int, [])
def rMd_cut : Room := { frames := 0, cells := 0, slots := 0, locals := 0 }
theorem kMd_cut : cOf yMd_cut tMd_cut ∈ gT := gT_in 1569 (by decide +kernel) rfl
theorem iMd_cut : Cond.initialized yMd_cut.cls ∈ gT := gT_in 68 (by decide +kernel) rfl
theorem mMd_cut : okM yMd_cut 2 := ⟨by decide, by decide, by unfold nPar; decide +kernel⟩
theorem nMd_cut : Cond.instanceMethod yMd_cut ∈ gT := gT_in 1568 (by decide +kernel) rfl
theorem lMd_cut : Cond.selects "MatchPipeModel" yMd_cut yMd_cut ∈ gT := gT_in 38 (by decide +kernel) rfl
def fMd_cut (x0 : Nat) (x1 : Int32) (x2 : Int32) (S : Sx) : Option (Int32 × Sx) :=
    (gX S 12 8 x0).bind fun v1 =>
    (aI S v1 x1).bind fun v3 =>
    if v3 = 32 then
    (some (x2, S))
    else
    ((gX S 12 8 x0).bind fun v5 =>
    (aI S v5 x1).bind fun v7 =>
    some (x2 &&& ((1 <<< (v7 &&& 31)) - 1), S))
set_option maxRecDepth 100000 in
set_option maxHeartbeats 4000000 in
theorem wMd_cut {Γ : vG} (hR : gR Γ = rMd_cut) (hl : (gl Γ).flags = pinnedFlags ++ [noTraceFlag]) (x0 : Nat) (x1 : Int32) (x2 : Int32) (S : Sx) {X : Int32 × Sx} (h : fMd_cut x0 x1 x2 S = some X) : vV Γ tMd_cut (mQ Γ 0 0 0 (some (.int X.1)) X.2) S 0 0 0 [(0, .ref x0), (1, .int x1), (2, .int x2)] [] := by
  unfold fMd_cut at h
  refine v_aload_n (pc := 0) (show decode (tC tMd_cut) 0 = .ok (.aload_n 0, 1) by decide +kernel) 0 rfl rfl ?_
  obtain ⟨v1, e2, h⟩ := ob h
  refine v_getX (pc := 1) oF_Md_7 e2 (show decode (tC tMd_cut) 1 = .ok (.getfield 7, 3) by decide +kernel) ?_
  refine v_iload_n (pc := 4) (show decode (tC tMd_cut) 4 = .ok (.iload_n 1, 1) by decide +kernel) 1 rfl rfl ?_
  obtain ⟨v3, e4, h⟩ := ob h
  refine v_iald (pc := 5) e4 (show decode (tC tMd_cut) 5 = .ok (.iaload, 1) by decide +kernel) ?_
  refine v_bipush (pc := 6) (v := 32) (show decode (tC tMd_cut) 6 = .ok (.bipush 32, 2) by decide +kernel) (by decide) ?_
  refine v_icmp_ne (pc := 8) 15 (show decode (tC tMd_cut) 8 = .ok (.if_icmp .ne 7, 3) by decide +kernel) (by decide) (fun c => ?_) (fun c => ?_)
  · replace h := ite_f c h
    refine v_iload_n (pc := 15) (show decode (tC tMd_cut) 15 = .ok (.iload_n 2, 1) by decide +kernel) 2 rfl rfl ?_
    refine v_iconst (pc := 16) (v := 1) (show decode (tC tMd_cut) 16 = .ok (.iconst 1, 1) by decide +kernel) (by decide) ?_
    refine v_aload_n (pc := 17) (show decode (tC tMd_cut) 17 = .ok (.aload_n 0, 1) by decide +kernel) 0 rfl rfl ?_
    obtain ⟨v5, e6, h⟩ := ob h
    refine v_getX (pc := 18) oF_Md_7 e6 (show decode (tC tMd_cut) 18 = .ok (.getfield 7, 3) by decide +kernel) ?_
    refine v_iload_n (pc := 21) (show decode (tC tMd_cut) 21 = .ok (.iload_n 1, 1) by decide +kernel) 1 rfl rfl ?_
    obtain ⟨v7, e8, h⟩ := ob h
    refine v_iald (pc := 22) e8 (show decode (tC tMd_cut) 22 = .ok (.iaload, 1) by decide +kernel) ?_
    refine v_ishl (pc := 23) (show decode (tC tMd_cut) 23 = .ok (.ishl, 1) by decide +kernel) ?_
    refine v_iconst (pc := 24) (v := 1) (show decode (tC tMd_cut) 24 = .ok (.iconst 1, 1) by decide +kernel) (by decide) ?_
    refine v_isub (pc := 25) (show decode (tC tMd_cut) 25 = .ok (.isub, 1) by decide +kernel) ?_
    refine v_iand (pc := 26) (show decode (tC tMd_cut) 26 = .ok (.iand, 1) by decide +kernel) ?_
    obtain rfl := Option.some.inj h
    refine v_wide (ce2 := 0) (sl2 := 0) (by decide) (by decide) ?_
    exact v_iret (pc := 27) rfl (show decode (tC tMd_cut) 27 = .ok (.ireturn, 1) by decide +kernel)
  · replace h := ite_t c h
    refine v_iload_n (pc := 11) (show decode (tC tMd_cut) 11 = .ok (.iload_n 2, 1) by decide +kernel) 2 rfl rfl ?_
    refine v_goto (pc := 12) 27 (show decode (tC tMd_cut) 12 = .ok (.goto 15, 3) by decide +kernel) (by decide) ?_
    obtain rfl := Option.some.inj h
    refine v_wide (ce2 := 0) (sl2 := 0) (by decide) (by decide) ?_
    exact v_iret (pc := 27) rfl (show decode (tC tMd_cut) 27 = .ok (.ireturn, 1) by decide +kernel)
theorem cMd_cut {l : Launch} (hl : l.flags = pinnedFlags ++ [noTraceFlag]) {D : va_G} {dA : Nat → ClassId} {B : Nat} {x0 : Nat} {x1 : Int32} {x2 : Int32} {S : Sx} {X : Int32 × Sx} (h : fMd_cut x0 x1 x2 S = some X) : Mx l yMd_cut tMd_cut rMd_cut 0 0 D dA B S [.ref x0, .int x1, .int x2] 0 (some (.int X.1)) X.2 :=
  mx_of hl (by decide) rfl rfl (Nat.le_of_ble_eq_true rfl) (fun Γ e1 e2 e3 e4 e5 => by subst e1; subst e3; subst e4; subst e5; exact wMd_cut e2 hl x0 x1 x2 S h)
/-! MatchPipeModel.isSame(II)Z -/
def yMd_isSame : MethodName := ⟨"MatchPipeModel", "isSame", "(II)Z"⟩
def tMd_isSame : tM := (prog_14_method_37_code, "MatchPipeModel", 6, "isSame", some .boolean, [])
def rMd_isSame : Room := { frames := 1, cells := 0, slots := 0, locals := 22 }
theorem kMd_isSame : cOf yMd_isSame tMd_isSame ∈ gT := gT_in 1577 (by decide +kernel) rfl
theorem iMd_isSame : Cond.initialized yMd_isSame.cls ∈ gT := gT_in 68 (by decide +kernel) rfl
theorem mMd_isSame : okM yMd_isSame 2 := ⟨by decide, by decide, by unfold nPar; decide +kernel⟩
theorem nMd_isSame : Cond.instanceMethod yMd_isSame ∈ gT := gT_in 1576 (by decide +kernel) rfl
theorem lMd_isSame : Cond.selects "MatchPipeModel" yMd_isSame yMd_isSame ∈ gT := gT_in 40 (by decide +kernel) rfl
def fMd_isSame_67  (x0 : Nat) (x2 : Int32) (x4 : Int32) (z0 : Int32) (S : Sx) : Option (Int32 × Sx) :=
    if z0 = 0 then
    (some (0, S))
    else
    (if x4 < 0 then
    (some (1, S))
    else
    ((gX S 12 39 x0).bind fun v1 =>
    (aI S v1 x2).bind fun v3 =>
    (gX S 12 61 x0).bind fun v5 =>
    (aI S v5 3).bind fun v7 =>
    (ckd S x0 12).bind fun _ =>
    bd2 (fMd_cut x0 x4 v7 S) fun r11 S12 =>
    if v3 = r11 then
    ((gX S12 12 38 x0).bind fun v13 =>
    (aI S12 v13 x2).bind fun v15 =>
    (gX S12 12 61 x0).bind fun v17 =>
    (aI S12 v17 2).bind fun v19 =>
    (ckd S12 x0 12).bind fun _ =>
    bd2 (fMd_cut x0 x4 v19 S12) fun r23 S24 =>
    (gX S24 12 39 x0).bind fun v25 =>
    (aI S24 v25 x2).bind fun v27 =>
    if v15 = (r23 &&& v27) then
    (some (1, S24))
    else
    (some (0, S24)))
    else
    (some (0, S12))))
set_option maxRecDepth 100000 in
set_option maxHeartbeats 4000000 in
theorem wMd_isSame_67 {Γ : vG} (hR : gR Γ = rMd_isSame) (hl : (gl Γ).flags = pinnedFlags ++ [noTraceFlag]) {X : Int32 × Sx}  : ∀ (x0 : Nat) (x2 : Int32) (x4 : Int32) (z0 : Int32) (S : Sx), fMd_isSame_67  x0 x2 x4 z0 S = some X → vV Γ tMd_isSame (mQ Γ 0 0 0 (some (.int X.1)) X.2) S 0 0 67 [(0, .ref x0), (2, .int x2), (4, .int x4)] [.int z0] := by
  intro x0 x2 x4 z0 S h
  unfold fMd_isSame_67 at h
  refine v_istore (pc := 67) [(5, .int z0), (0, .ref x0), (2, .int x2), (4, .int x4)] (show decode (tC tMd_isSame) 67 = .ok (.istore 5, 2) by decide +kernel) (by decide) rfl ?_
  refine v_iload (pc := 69) (show decode (tC tMd_isSame) 69 = .ok (.iload 5, 2) by decide +kernel) 0 rfl ?_
  refine v_if_eq (pc := 71) 132 (show decode (tC tMd_isSame) 71 = .ok (.ifCond .eq 61, 3) by decide +kernel) (by decide) (fun c => ?_) (fun c => ?_)
  · replace h := ite_t c h
    refine v_iconst (pc := 132) (v := 0) (show decode (tC tMd_isSame) 132 = .ok (.iconst 0, 1) by decide +kernel) (by decide) ?_
    obtain rfl := Option.some.inj h
    refine v_wide (ce2 := 0) (sl2 := 0) (by decide) (by decide) ?_
    exact v_zret (pc := 133) rfl (Or.inl rfl) (show decode (tC tMd_isSame) 133 = .ok (.ireturn, 1) by decide +kernel)
  · replace h := ite_f c h
    refine v_iload (pc := 74) (show decode (tC tMd_isSame) 74 = .ok (.iload 4, 2) by decide +kernel) 3 rfl ?_
    refine v_if_lt (pc := 76) 128 (show decode (tC tMd_isSame) 76 = .ok (.ifCond .lt 52, 3) by decide +kernel) (by decide) (fun c => ?_) (fun c => ?_)
    · replace h := ite_t c h
      refine v_iconst (pc := 128) (v := 1) (show decode (tC tMd_isSame) 128 = .ok (.iconst 1, 1) by decide +kernel) (by decide) ?_
      refine v_goto (pc := 129) 133 (show decode (tC tMd_isSame) 129 = .ok (.goto 4, 3) by decide +kernel) (by decide) ?_
      obtain rfl := Option.some.inj h
      refine v_wide (ce2 := 0) (sl2 := 0) (by decide) (by decide) ?_
      exact v_zret (pc := 133) rfl (Or.inr rfl) (show decode (tC tMd_isSame) 133 = .ok (.ireturn, 1) by decide +kernel)
    · replace h := ite_f c h
      refine v_aload_n (pc := 79) (show decode (tC tMd_isSame) 79 = .ok (.aload_n 0, 1) by decide +kernel) 1 rfl rfl ?_
      obtain ⟨v1, e2, h⟩ := ob h
      refine v_getX (pc := 80) oF_Md_101 e2 (show decode (tC tMd_isSame) 80 = .ok (.getfield 101, 3) by decide +kernel) ?_
      refine v_iload_n (pc := 83) (show decode (tC tMd_isSame) 83 = .ok (.iload_n 2, 1) by decide +kernel) 2 rfl rfl ?_
      obtain ⟨v3, e4, h⟩ := ob h
      refine v_iald (pc := 84) e4 (show decode (tC tMd_isSame) 84 = .ok (.iaload, 1) by decide +kernel) ?_
      refine v_aload_n (pc := 85) (show decode (tC tMd_isSame) 85 = .ok (.aload_n 0, 1) by decide +kernel) 1 rfl rfl ?_
      refine v_iload (pc := 86) (show decode (tC tMd_isSame) 86 = .ok (.iload 4, 2) by decide +kernel) 3 rfl ?_
      refine v_aload_n (pc := 88) (show decode (tC tMd_isSame) 88 = .ok (.aload_n 0, 1) by decide +kernel) 1 rfl rfl ?_
      obtain ⟨v5, e6, h⟩ := ob h
      refine v_getX (pc := 89) oF_Md_137 e6 (show decode (tC tMd_isSame) 89 = .ok (.getfield 137, 3) by decide +kernel) ?_
      refine v_iconst (pc := 92) (v := 3) (show decode (tC tMd_isSame) 92 = .ok (.iconst 3, 1) by decide +kernel) (by decide) ?_
      obtain ⟨v7, e8, h⟩ := ob h
      refine v_iald (pc := 93) e8 (show decode (tC tMd_isSame) 93 = .ok (.iaload, 1) by decide +kernel) ?_
      obtain ⟨_, e10, h⟩ := ob h
      obtain ⟨r11, S12, e9, h⟩ := ob2 h
      refine v_call (pc := 94) (v := (some (.int r11))) (y := yMd_cut) (θ' := tMd_cut) (rm := rMd_cut) (av := [.ref x0, .int x4, .int v7]) (st := [.int v3]) (cMd_cut (l := gl Γ) hl e9) kMd_cut iMd_cut (iv_virt (y := yMd_cut) (θ' := tMd_cut) (kd := 12) (As := [.int x4, .int v7]) rfl (ckd_of e10) kMd_cut (gT_in 1566 (by decide +kernel) rfl) nMd_cut lMd_cut mMd_cut rfl (show decode (tC tMd_isSame) 94 = .ok (.invokevirtual 284, 3) by decide +kernel)) ⟨by rw [hR]; decide, by rw [hR]; decide, by rw [hR]; decide, by rw [hR]; decide⟩ (Nat.le_of_ble_eq_true rfl) ?_
      refine v_icmp_ne (pc := 97) 132 (show decode (tC tMd_isSame) 97 = .ok (.if_icmp .ne 35, 3) by decide +kernel) (by decide) (fun c => ?_) (fun c => ?_)
      · replace h := ite_f c h
        refine v_iconst (pc := 132) (v := 0) (show decode (tC tMd_isSame) 132 = .ok (.iconst 0, 1) by decide +kernel) (by decide) ?_
        obtain rfl := Option.some.inj h
        refine v_wide (ce2 := 0) (sl2 := 0) (by decide) (by decide) ?_
        exact v_zret (pc := 133) rfl (Or.inl rfl) (show decode (tC tMd_isSame) 133 = .ok (.ireturn, 1) by decide +kernel)
      · replace h := ite_t c h
        refine v_aload_n (pc := 100) (show decode (tC tMd_isSame) 100 = .ok (.aload_n 0, 1) by decide +kernel) 1 rfl rfl ?_
        obtain ⟨v13, e14, h⟩ := ob h
        refine v_getX (pc := 101) oF_Md_98 e14 (show decode (tC tMd_isSame) 101 = .ok (.getfield 98, 3) by decide +kernel) ?_
        refine v_iload_n (pc := 104) (show decode (tC tMd_isSame) 104 = .ok (.iload_n 2, 1) by decide +kernel) 2 rfl rfl ?_
        obtain ⟨v15, e16, h⟩ := ob h
        refine v_iald (pc := 105) e16 (show decode (tC tMd_isSame) 105 = .ok (.iaload, 1) by decide +kernel) ?_
        refine v_aload_n (pc := 106) (show decode (tC tMd_isSame) 106 = .ok (.aload_n 0, 1) by decide +kernel) 1 rfl rfl ?_
        refine v_iload (pc := 107) (show decode (tC tMd_isSame) 107 = .ok (.iload 4, 2) by decide +kernel) 3 rfl ?_
        refine v_aload_n (pc := 109) (show decode (tC tMd_isSame) 109 = .ok (.aload_n 0, 1) by decide +kernel) 1 rfl rfl ?_
        obtain ⟨v17, e18, h⟩ := ob h
        refine v_getX (pc := 110) oF_Md_137 e18 (show decode (tC tMd_isSame) 110 = .ok (.getfield 137, 3) by decide +kernel) ?_
        refine v_iconst (pc := 113) (v := 2) (show decode (tC tMd_isSame) 113 = .ok (.iconst 2, 1) by decide +kernel) (by decide) ?_
        obtain ⟨v19, e20, h⟩ := ob h
        refine v_iald (pc := 114) e20 (show decode (tC tMd_isSame) 114 = .ok (.iaload, 1) by decide +kernel) ?_
        obtain ⟨_, e22, h⟩ := ob h
        obtain ⟨r23, S24, e21, h⟩ := ob2 h
        refine v_call (pc := 115) (v := (some (.int r23))) (y := yMd_cut) (θ' := tMd_cut) (rm := rMd_cut) (av := [.ref x0, .int x4, .int v19]) (st := [.int v15]) (cMd_cut (l := gl Γ) hl e21) kMd_cut iMd_cut (iv_virt (y := yMd_cut) (θ' := tMd_cut) (kd := 12) (As := [.int x4, .int v19]) rfl (ckd_of e22) kMd_cut (gT_in 1566 (by decide +kernel) rfl) nMd_cut lMd_cut mMd_cut rfl (show decode (tC tMd_isSame) 115 = .ok (.invokevirtual 284, 3) by decide +kernel)) ⟨by rw [hR]; decide, by rw [hR]; decide, by rw [hR]; decide, by rw [hR]; decide⟩ (Nat.le_of_ble_eq_true rfl) ?_
        refine v_aload_n (pc := 118) (show decode (tC tMd_isSame) 118 = .ok (.aload_n 0, 1) by decide +kernel) 1 rfl rfl ?_
        obtain ⟨v25, e26, h⟩ := ob h
        refine v_getX (pc := 119) oF_Md_101 e26 (show decode (tC tMd_isSame) 119 = .ok (.getfield 101, 3) by decide +kernel) ?_
        refine v_iload_n (pc := 122) (show decode (tC tMd_isSame) 122 = .ok (.iload_n 2, 1) by decide +kernel) 2 rfl rfl ?_
        obtain ⟨v27, e28, h⟩ := ob h
        refine v_iald (pc := 123) e28 (show decode (tC tMd_isSame) 123 = .ok (.iaload, 1) by decide +kernel) ?_
        refine v_iand (pc := 124) (show decode (tC tMd_isSame) 124 = .ok (.iand, 1) by decide +kernel) ?_
        refine v_icmp_ne (pc := 125) 132 (show decode (tC tMd_isSame) 125 = .ok (.if_icmp .ne 7, 3) by decide +kernel) (by decide) (fun c => ?_) (fun c => ?_)
        · replace h := ite_f c h
          refine v_iconst (pc := 132) (v := 0) (show decode (tC tMd_isSame) 132 = .ok (.iconst 0, 1) by decide +kernel) (by decide) ?_
          obtain rfl := Option.some.inj h
          refine v_wide (ce2 := 0) (sl2 := 0) (by decide) (by decide) ?_
          exact v_zret (pc := 133) rfl (Or.inl rfl) (show decode (tC tMd_isSame) 133 = .ok (.ireturn, 1) by decide +kernel)
        · replace h := ite_t c h
          refine v_iconst (pc := 128) (v := 1) (show decode (tC tMd_isSame) 128 = .ok (.iconst 1, 1) by decide +kernel) (by decide) ?_
          refine v_goto (pc := 129) 133 (show decode (tC tMd_isSame) 129 = .ok (.goto 4, 3) by decide +kernel) (by decide) ?_
          obtain rfl := Option.some.inj h
          refine v_wide (ce2 := 0) (sl2 := 0) (by decide) (by decide) ?_
          exact v_zret (pc := 133) rfl (Or.inr rfl) (show decode (tC tMd_isSame) 133 = .ok (.ireturn, 1) by decide +kernel)
def fMd_isSame_66  (x0 : Nat) (x2 : Int32) (x4 : Int32) (S : Sx) : Option (Int32 × Sx) :=
    fMd_isSame_67  x0 x2 x4 0 S
set_option maxRecDepth 100000 in
set_option maxHeartbeats 4000000 in
theorem wMd_isSame_66 {Γ : vG} (hR : gR Γ = rMd_isSame) (hl : (gl Γ).flags = pinnedFlags ++ [noTraceFlag]) {X : Int32 × Sx}  : ∀ (x0 : Nat) (x2 : Int32) (x4 : Int32) (S : Sx), fMd_isSame_66  x0 x2 x4 S = some X → vV Γ tMd_isSame (mQ Γ 0 0 0 (some (.int X.1)) X.2) S 0 0 66 [(0, .ref x0), (2, .int x2), (4, .int x4)] [] := by
  intro x0 x2 x4 S h
  unfold fMd_isSame_66 at h
  refine v_iconst (pc := 66) (v := 0) (show decode (tC tMd_isSame) 66 = .ok (.iconst 0, 1) by decide +kernel) (by decide) ?_
  exact wMd_isSame_67 hR hl  x0 x2 x4 0 S h
def fMd_isSame (x0 : Nat) (x1 : Int32) (x2 : Int32) (S : Sx) : Option (Int32 × Sx) :=
    (gX S 12 21 x0).bind fun v1 =>
    (aI S v1 x1).bind fun v3 =>
    (gX S 12 22 x0).bind fun v5 =>
    (aI S v5 x1).bind fun v7 =>
    (gX S 12 37 x0).bind fun v9 =>
    (aI S v9 x2).bind fun v11 =>
    (gX S 12 61 x0).bind fun v13 =>
    (aI S v13 1).bind fun v15 =>
    (ckd S x0 12).bind fun _ =>
    bd2 (fMd_cut x0 v3 v15 S) fun r19 S20 =>
    if v11 = r19 then
    ((gX S20 12 36 x0).bind fun v21 =>
    (aI S20 v21 x2).bind fun v23 =>
    (gX S20 12 61 x0).bind fun v25 =>
    (aI S20 v25 0).bind fun v27 =>
    (ckd S20 x0 12).bind fun _ =>
    bd2 (fMd_cut x0 v3 v27 S20) fun r31 S32 =>
    (gX S32 12 37 x0).bind fun v33 =>
    (aI S32 v33 x2).bind fun v35 =>
    if v23 = (r31 &&& v35) then
    (fMd_isSame_67  x0 x2 v7 1 S32)
    else
    (fMd_isSame_66  x0 x2 v7 S32))
    else
    (fMd_isSame_66  x0 x2 v7 S20)
set_option maxRecDepth 100000 in
set_option maxHeartbeats 4000000 in
theorem wMd_isSame {Γ : vG} (hR : gR Γ = rMd_isSame) (hl : (gl Γ).flags = pinnedFlags ++ [noTraceFlag]) (x0 : Nat) (x1 : Int32) (x2 : Int32) (S : Sx) {X : Int32 × Sx} (h : fMd_isSame x0 x1 x2 S = some X) : vV Γ tMd_isSame (mQ Γ 0 0 0 (some (.int X.1)) X.2) S 0 0 0 [(0, .ref x0), (1, .int x1), (2, .int x2)] [] := by
  unfold fMd_isSame at h
  refine v_aload_n (pc := 0) (show decode (tC tMd_isSame) 0 = .ok (.aload_n 0, 1) by decide +kernel) 0 rfl rfl ?_
  obtain ⟨v1, e2, h⟩ := ob h
  refine v_getX (pc := 1) oF_Md_49 e2 (show decode (tC tMd_isSame) 1 = .ok (.getfield 49, 3) by decide +kernel) ?_
  refine v_iload_n (pc := 4) (show decode (tC tMd_isSame) 4 = .ok (.iload_n 1, 1) by decide +kernel) 1 rfl rfl ?_
  obtain ⟨v3, e4, h⟩ := ob h
  refine v_iald (pc := 5) e4 (show decode (tC tMd_isSame) 5 = .ok (.iaload, 1) by decide +kernel) ?_
  refine v_istore_n (pc := 6) [(3, .int v3), (0, .ref x0), (1, .int x1), (2, .int x2)] (show decode (tC tMd_isSame) 6 = .ok (.istore_n 3, 1) by decide +kernel) rfl (by decide) rfl ?_
  refine v_aload_n (pc := 7) (show decode (tC tMd_isSame) 7 = .ok (.aload_n 0, 1) by decide +kernel) 1 rfl rfl ?_
  obtain ⟨v5, e6, h⟩ := ob h
  refine v_getX (pc := 8) oF_Md_52 e6 (show decode (tC tMd_isSame) 8 = .ok (.getfield 52, 3) by decide +kernel) ?_
  refine v_iload_n (pc := 11) (show decode (tC tMd_isSame) 11 = .ok (.iload_n 1, 1) by decide +kernel) 2 rfl rfl ?_
  obtain ⟨v7, e8, h⟩ := ob h
  refine v_iald (pc := 12) e8 (show decode (tC tMd_isSame) 12 = .ok (.iaload, 1) by decide +kernel) ?_
  refine v_istore (pc := 13) [(4, .int v7), (3, .int v3), (0, .ref x0), (1, .int x1), (2, .int x2)] (show decode (tC tMd_isSame) 13 = .ok (.istore 4, 2) by decide +kernel) (by decide) rfl ?_
  refine v_aload_n (pc := 15) (show decode (tC tMd_isSame) 15 = .ok (.aload_n 0, 1) by decide +kernel) 2 rfl rfl ?_
  obtain ⟨v9, e10, h⟩ := ob h
  refine v_getX (pc := 16) oF_Md_95 e10 (show decode (tC tMd_isSame) 16 = .ok (.getfield 95, 3) by decide +kernel) ?_
  refine v_iload_n (pc := 19) (show decode (tC tMd_isSame) 19 = .ok (.iload_n 2, 1) by decide +kernel) 4 rfl rfl ?_
  obtain ⟨v11, e12, h⟩ := ob h
  refine v_iald (pc := 20) e12 (show decode (tC tMd_isSame) 20 = .ok (.iaload, 1) by decide +kernel) ?_
  refine v_aload_n (pc := 21) (show decode (tC tMd_isSame) 21 = .ok (.aload_n 0, 1) by decide +kernel) 2 rfl rfl ?_
  refine v_iload_n (pc := 22) (show decode (tC tMd_isSame) 22 = .ok (.iload_n 3, 1) by decide +kernel) 1 rfl rfl ?_
  refine v_aload_n (pc := 23) (show decode (tC tMd_isSame) 23 = .ok (.aload_n 0, 1) by decide +kernel) 2 rfl rfl ?_
  obtain ⟨v13, e14, h⟩ := ob h
  refine v_getX (pc := 24) oF_Md_137 e14 (show decode (tC tMd_isSame) 24 = .ok (.getfield 137, 3) by decide +kernel) ?_
  refine v_iconst (pc := 27) (v := 1) (show decode (tC tMd_isSame) 27 = .ok (.iconst 1, 1) by decide +kernel) (by decide) ?_
  obtain ⟨v15, e16, h⟩ := ob h
  refine v_iald (pc := 28) e16 (show decode (tC tMd_isSame) 28 = .ok (.iaload, 1) by decide +kernel) ?_
  obtain ⟨_, e18, h⟩ := ob h
  obtain ⟨r19, S20, e17, h⟩ := ob2 h
  refine v_call (pc := 29) (v := (some (.int r19))) (y := yMd_cut) (θ' := tMd_cut) (rm := rMd_cut) (av := [.ref x0, .int v3, .int v15]) (st := [.int v11]) (cMd_cut (l := gl Γ) hl e17) kMd_cut iMd_cut (iv_virt (y := yMd_cut) (θ' := tMd_cut) (kd := 12) (As := [.int v3, .int v15]) rfl (ckd_of e18) kMd_cut (gT_in 1566 (by decide +kernel) rfl) nMd_cut lMd_cut mMd_cut rfl (show decode (tC tMd_isSame) 29 = .ok (.invokevirtual 284, 3) by decide +kernel)) ⟨by rw [hR]; decide, by rw [hR]; decide, by rw [hR]; decide, by rw [hR]; decide⟩ (Nat.le_of_ble_eq_true rfl) ?_
  refine v_icmp_ne (pc := 32) 66 (show decode (tC tMd_isSame) 32 = .ok (.if_icmp .ne 34, 3) by decide +kernel) (by decide) (fun c => ?_) (fun c => ?_)
  · replace h := ite_f c h
    refine v_sub [(0, .ref x0), (2, .int x2), (4, .int v7)] [2, 4, 0] rfl ?_
    exact wMd_isSame_66 hR hl  x0 x2 v7 S20 h
  · replace h := ite_t c h
    refine v_aload_n (pc := 35) (show decode (tC tMd_isSame) 35 = .ok (.aload_n 0, 1) by decide +kernel) 2 rfl rfl ?_
    obtain ⟨v21, e22, h⟩ := ob h
    refine v_getX (pc := 36) oF_Md_92 e22 (show decode (tC tMd_isSame) 36 = .ok (.getfield 92, 3) by decide +kernel) ?_
    refine v_iload_n (pc := 39) (show decode (tC tMd_isSame) 39 = .ok (.iload_n 2, 1) by decide +kernel) 4 rfl rfl ?_
    obtain ⟨v23, e24, h⟩ := ob h
    refine v_iald (pc := 40) e24 (show decode (tC tMd_isSame) 40 = .ok (.iaload, 1) by decide +kernel) ?_
    refine v_aload_n (pc := 41) (show decode (tC tMd_isSame) 41 = .ok (.aload_n 0, 1) by decide +kernel) 2 rfl rfl ?_
    refine v_iload_n (pc := 42) (show decode (tC tMd_isSame) 42 = .ok (.iload_n 3, 1) by decide +kernel) 1 rfl rfl ?_
    refine v_aload_n (pc := 43) (show decode (tC tMd_isSame) 43 = .ok (.aload_n 0, 1) by decide +kernel) 2 rfl rfl ?_
    obtain ⟨v25, e26, h⟩ := ob h
    refine v_getX (pc := 44) oF_Md_137 e26 (show decode (tC tMd_isSame) 44 = .ok (.getfield 137, 3) by decide +kernel) ?_
    refine v_iconst (pc := 47) (v := 0) (show decode (tC tMd_isSame) 47 = .ok (.iconst 0, 1) by decide +kernel) (by decide) ?_
    obtain ⟨v27, e28, h⟩ := ob h
    refine v_iald (pc := 48) e28 (show decode (tC tMd_isSame) 48 = .ok (.iaload, 1) by decide +kernel) ?_
    obtain ⟨_, e30, h⟩ := ob h
    obtain ⟨r31, S32, e29, h⟩ := ob2 h
    refine v_call (pc := 49) (v := (some (.int r31))) (y := yMd_cut) (θ' := tMd_cut) (rm := rMd_cut) (av := [.ref x0, .int v3, .int v27]) (st := [.int v23]) (cMd_cut (l := gl Γ) hl e29) kMd_cut iMd_cut (iv_virt (y := yMd_cut) (θ' := tMd_cut) (kd := 12) (As := [.int v3, .int v27]) rfl (ckd_of e30) kMd_cut (gT_in 1566 (by decide +kernel) rfl) nMd_cut lMd_cut mMd_cut rfl (show decode (tC tMd_isSame) 49 = .ok (.invokevirtual 284, 3) by decide +kernel)) ⟨by rw [hR]; decide, by rw [hR]; decide, by rw [hR]; decide, by rw [hR]; decide⟩ (Nat.le_of_ble_eq_true rfl) ?_
    refine v_aload_n (pc := 52) (show decode (tC tMd_isSame) 52 = .ok (.aload_n 0, 1) by decide +kernel) 2 rfl rfl ?_
    obtain ⟨v33, e34, h⟩ := ob h
    refine v_getX (pc := 53) oF_Md_95 e34 (show decode (tC tMd_isSame) 53 = .ok (.getfield 95, 3) by decide +kernel) ?_
    refine v_iload_n (pc := 56) (show decode (tC tMd_isSame) 56 = .ok (.iload_n 2, 1) by decide +kernel) 4 rfl rfl ?_
    obtain ⟨v35, e36, h⟩ := ob h
    refine v_iald (pc := 57) e36 (show decode (tC tMd_isSame) 57 = .ok (.iaload, 1) by decide +kernel) ?_
    refine v_iand (pc := 58) (show decode (tC tMd_isSame) 58 = .ok (.iand, 1) by decide +kernel) ?_
    refine v_icmp_ne (pc := 59) 66 (show decode (tC tMd_isSame) 59 = .ok (.if_icmp .ne 7, 3) by decide +kernel) (by decide) (fun c => ?_) (fun c => ?_)
    · replace h := ite_f c h
      refine v_sub [(0, .ref x0), (2, .int x2), (4, .int v7)] [2, 4, 0] rfl ?_
      exact wMd_isSame_66 hR hl  x0 x2 v7 S32 h
    · replace h := ite_t c h
      refine v_iconst (pc := 62) (v := 1) (show decode (tC tMd_isSame) 62 = .ok (.iconst 1, 1) by decide +kernel) (by decide) ?_
      refine v_goto (pc := 63) 67 (show decode (tC tMd_isSame) 63 = .ok (.goto 4, 3) by decide +kernel) (by decide) ?_
      refine v_sub [(0, .ref x0), (2, .int x2), (4, .int v7)] [2, 4, 0] rfl ?_
      exact wMd_isSame_67 hR hl  x0 x2 v7 1 S32 h
theorem cMd_isSame {l : Launch} (hl : l.flags = pinnedFlags ++ [noTraceFlag]) {D : va_G} {dA : Nat → ClassId} {B : Nat} {x0 : Nat} {x1 : Int32} {x2 : Int32} {S : Sx} {X : Int32 × Sx} (h : fMd_isSame x0 x1 x2 S = some X) : Mx l yMd_isSame tMd_isSame rMd_isSame 0 0 D dA B S [.ref x0, .int x1, .int x2] 0 (some (.int X.1)) X.2 :=
  mx_of hl (by decide) rfl rfl (Nat.le_of_ble_eq_true rfl) (fun Γ e1 e2 e3 e4 e5 => by subst e1; subst e3; subst e4; subst e5; exact wMd_isSame e2 hl x0 x1 x2 S h)
/-! MatchPipeModel.findSame(I)I -/
def yMd_findSame : MethodName := ⟨"MatchPipeModel", "findSame", "(I)I"⟩
def tMd_findSame : tM := (prog_14_method_38_code, "MatchPipeModel", 4, "findSame", some .int, [])
def rMd_findSame : Room := { frames := 2, cells := 0, slots := 0, locals := 47 }
theorem kMd_findSame : cOf yMd_findSame tMd_findSame ∈ gT := gT_in 1573 (by decide +kernel) rfl
theorem iMd_findSame : Cond.initialized yMd_findSame.cls ∈ gT := gT_in 68 (by decide +kernel) rfl
theorem mMd_findSame : okM yMd_findSame 1 := ⟨by decide, by decide, by unfold nPar; decide +kernel⟩
theorem nMd_findSame : Cond.instanceMethod yMd_findSame ∈ gT := gT_in 1572 (by decide +kernel) rfl
theorem lMd_findSame : Cond.selects "MatchPipeModel" yMd_findSame yMd_findSame ∈ gT := gT_in 39 (by decide +kernel) rfl
def fMd_findSame_7  : Nat → Nat → Int32 → Int32 → Int32 → Sx → Option (Int32 × Sx)
  | 0, _, _, _, _, _ => none
  | n + 1, x0, x1, x2, x3, S =>
    (gX S 12 35 x0).bind fun v1 =>
    (aI S v1 x1).bind fun v3 =>
    if ((20 * x1) + v3) ≤ x3 then
    (some (x2, S))
    else
    ((ckd S x0 12).bind fun _ =>
    bd2 (fMd_isSame x0 x1 x3 S) fun r7 S8 =>
    if r7 = 0 then
    (fMd_findSame_7 n x0 x1 x2 (x3 + 1) S8)
    else
    (fMd_findSame_7 n x0 x1 x3 (x3 + 1) S8))
set_option maxRecDepth 100000 in
set_option maxHeartbeats 4000000 in
theorem wMd_findSame_7 {Γ : vG} (hR : gR Γ = rMd_findSame) (hl : (gl Γ).flags = pinnedFlags ++ [noTraceFlag]) {X : Int32 × Sx}  : ∀ (n : Nat) (x0 : Nat) (x1 : Int32) (x2 : Int32) (x3 : Int32) (S : Sx), fMd_findSame_7  n x0 x1 x2 x3 S = some X → vV Γ tMd_findSame (mQ Γ 0 0 0 (some (.int X.1)) X.2) S 0 0 7 [(0, .ref x0), (1, .int x1), (2, .int x2), (3, .int x3)] [] := by
  intro n
  induction n with
  | zero => intro x0 x1 x2 x3 S h; rw [fMd_findSame_7] at h; cases h
  | succ n ih =>
    intro x0 x1 x2 x3 S h
    rw [fMd_findSame_7] at h
    refine v_iload_n (pc := 7) (show decode (tC tMd_findSame) 7 = .ok (.iload_n 3, 1) by decide +kernel) 3 rfl rfl ?_
    refine v_bipush (pc := 8) (v := 20) (show decode (tC tMd_findSame) 8 = .ok (.bipush 20, 2) by decide +kernel) (by decide) ?_
    refine v_iload_n (pc := 10) (show decode (tC tMd_findSame) 10 = .ok (.iload_n 1, 1) by decide +kernel) 1 rfl rfl ?_
    refine v_imul (pc := 11) (show decode (tC tMd_findSame) 11 = .ok (.imul, 1) by decide +kernel) ?_
    refine v_aload_n (pc := 12) (show decode (tC tMd_findSame) 12 = .ok (.aload_n 0, 1) by decide +kernel) 0 rfl rfl ?_
    obtain ⟨v1, e2, h⟩ := ob h
    refine v_getX (pc := 13) oF_Md_89 e2 (show decode (tC tMd_findSame) 13 = .ok (.getfield 89, 3) by decide +kernel) ?_
    refine v_iload_n (pc := 16) (show decode (tC tMd_findSame) 16 = .ok (.iload_n 1, 1) by decide +kernel) 1 rfl rfl ?_
    obtain ⟨v3, e4, h⟩ := ob h
    refine v_iald (pc := 17) e4 (show decode (tC tMd_findSame) 17 = .ok (.iaload, 1) by decide +kernel) ?_
    refine v_iadd (pc := 18) (show decode (tC tMd_findSame) 18 = .ok (.iadd, 1) by decide +kernel) ?_
    refine v_icmp_ge (pc := 19) 43 (show decode (tC tMd_findSame) 19 = .ok (.if_icmp .ge 24, 3) by decide +kernel) (by decide) (fun c => ?_) (fun c => ?_)
    · replace h := ite_t c h
      refine v_iload_n (pc := 43) (show decode (tC tMd_findSame) 43 = .ok (.iload_n 2, 1) by decide +kernel) 2 rfl rfl ?_
      obtain rfl := Option.some.inj h
      refine v_wide (ce2 := 0) (sl2 := 0) (by decide) (by decide) ?_
      exact v_iret (pc := 44) rfl (show decode (tC tMd_findSame) 44 = .ok (.ireturn, 1) by decide +kernel)
    · replace h := ite_f c h
      refine v_aload_n (pc := 22) (show decode (tC tMd_findSame) 22 = .ok (.aload_n 0, 1) by decide +kernel) 0 rfl rfl ?_
      refine v_iload_n (pc := 23) (show decode (tC tMd_findSame) 23 = .ok (.iload_n 1, 1) by decide +kernel) 1 rfl rfl ?_
      refine v_iload_n (pc := 24) (show decode (tC tMd_findSame) 24 = .ok (.iload_n 3, 1) by decide +kernel) 3 rfl rfl ?_
      obtain ⟨_, e6, h⟩ := ob h
      obtain ⟨r7, S8, e5, h⟩ := ob2 h
      refine v_call (pc := 25) (v := (some (.int r7))) (y := yMd_isSame) (θ' := tMd_isSame) (rm := rMd_isSame) (av := [.ref x0, .int x1, .int x3]) (st := []) (cMd_isSame (l := gl Γ) hl e5) kMd_isSame iMd_isSame (iv_virt (y := yMd_isSame) (θ' := tMd_isSame) (kd := 12) (As := [.int x1, .int x3]) rfl (ckd_of e6) kMd_isSame (gT_in 1574 (by decide +kernel) rfl) nMd_isSame lMd_isSame mMd_isSame rfl (show decode (tC tMd_findSame) 25 = .ok (.invokevirtual 288, 3) by decide +kernel)) ⟨by rw [hR]; decide, by rw [hR]; decide, by rw [hR]; decide, by rw [hR]; decide⟩ (Nat.le_of_ble_eq_true rfl) ?_
      refine v_if_eq (pc := 28) 35 (show decode (tC tMd_findSame) 28 = .ok (.ifCond .eq 7, 3) by decide +kernel) (by decide) (fun c => ?_) (fun c => ?_)
      · replace h := ite_t c h
        refine v_iload_n (pc := 35) (show decode (tC tMd_findSame) 35 = .ok (.iload_n 2, 1) by decide +kernel) 2 rfl rfl ?_
        refine v_istore_n (pc := 36) [(2, .int x2), (0, .ref x0), (1, .int x1), (3, .int x3)] (show decode (tC tMd_findSame) 36 = .ok (.istore_n 2, 1) by decide +kernel) rfl (by decide) rfl ?_
        refine v_iinc (pc := 37) (j := 3) [(3, .int (x3 + 1)), (2, .int x2), (0, .ref x0), (1, .int x1)] (show decode (tC tMd_findSame) 37 = .ok (.iinc 3 1, 3) by decide +kernel) rfl rfl (by decide) rfl ?_
        refine v_goto (pc := 40) 7 (show decode (tC tMd_findSame) 40 = .ok (.goto (-33), 3) by decide +kernel) (by decide) ?_
        refine v_sub [(0, .ref x0), (1, .int x1), (2, .int x2), (3, .int (x3 + 1))] [2, 3, 1, 0] rfl ?_
        exact ih x0 x1 x2 (x3 + 1) S8 h
      · replace h := ite_f c h
        refine v_iload_n (pc := 31) (show decode (tC tMd_findSame) 31 = .ok (.iload_n 3, 1) by decide +kernel) 3 rfl rfl ?_
        refine v_goto (pc := 32) 36 (show decode (tC tMd_findSame) 32 = .ok (.goto 4, 3) by decide +kernel) (by decide) ?_
        refine v_istore_n (pc := 36) [(2, .int x3), (0, .ref x0), (1, .int x1), (3, .int x3)] (show decode (tC tMd_findSame) 36 = .ok (.istore_n 2, 1) by decide +kernel) rfl (by decide) rfl ?_
        refine v_iinc (pc := 37) (j := 3) [(3, .int (x3 + 1)), (2, .int x3), (0, .ref x0), (1, .int x1)] (show decode (tC tMd_findSame) 37 = .ok (.iinc 3 1, 3) by decide +kernel) rfl rfl (by decide) rfl ?_
        refine v_goto (pc := 40) 7 (show decode (tC tMd_findSame) 40 = .ok (.goto (-33), 3) by decide +kernel) (by decide) ?_
        refine v_sub [(0, .ref x0), (1, .int x1), (2, .int x3), (3, .int (x3 + 1))] [2, 3, 1, 0] rfl ?_
        exact ih x0 x1 x3 (x3 + 1) S8 h
def fMd_findSame (x0 : Nat) (x1 : Int32) (S : Sx) : Option (Int32 × Sx) :=
    fMd_findSame_7  fuel x0 x1 (-1) (20 * x1) S
set_option maxRecDepth 100000 in
set_option maxHeartbeats 4000000 in
theorem wMd_findSame {Γ : vG} (hR : gR Γ = rMd_findSame) (hl : (gl Γ).flags = pinnedFlags ++ [noTraceFlag]) (x0 : Nat) (x1 : Int32) (S : Sx) {X : Int32 × Sx} (h : fMd_findSame x0 x1 S = some X) : vV Γ tMd_findSame (mQ Γ 0 0 0 (some (.int X.1)) X.2) S 0 0 0 [(0, .ref x0), (1, .int x1)] [] := by
  unfold fMd_findSame at h
  refine v_iconst (pc := 0) (v := (-1)) (show decode (tC tMd_findSame) 0 = .ok (.iconst (-1), 1) by decide +kernel) (by decide) ?_
  refine v_istore_n (pc := 1) [(2, .int (-1)), (0, .ref x0), (1, .int x1)] (show decode (tC tMd_findSame) 1 = .ok (.istore_n 2, 1) by decide +kernel) rfl (by decide) rfl ?_
  refine v_bipush (pc := 2) (v := 20) (show decode (tC tMd_findSame) 2 = .ok (.bipush 20, 2) by decide +kernel) (by decide) ?_
  refine v_iload_n (pc := 4) (show decode (tC tMd_findSame) 4 = .ok (.iload_n 1, 1) by decide +kernel) 2 rfl rfl ?_
  refine v_imul (pc := 5) (show decode (tC tMd_findSame) 5 = .ok (.imul, 1) by decide +kernel) ?_
  refine v_istore_n (pc := 6) [(3, .int (20 * x1)), (2, .int (-1)), (0, .ref x0), (1, .int x1)] (show decode (tC tMd_findSame) 6 = .ok (.istore_n 3, 1) by decide +kernel) rfl (by decide) rfl ?_
  refine v_sub [(0, .ref x0), (1, .int x1), (2, .int (-1)), (3, .int (20 * x1))] [2, 3, 1, 0] rfl ?_
  exact wMd_findSame_7 hR hl  fuel x0 x1 (-1) (20 * x1) S h
theorem cMd_findSame {l : Launch} (hl : l.flags = pinnedFlags ++ [noTraceFlag]) {D : va_G} {dA : Nat → ClassId} {B : Nat} {x0 : Nat} {x1 : Int32} {S : Sx} {X : Int32 × Sx} (h : fMd_findSame x0 x1 S = some X) : Mx l yMd_findSame tMd_findSame rMd_findSame 0 0 D dA B S [.ref x0, .int x1] 0 (some (.int X.1)) X.2 :=
  mx_of hl (by decide) rfl rfl (Nat.le_of_ble_eq_true rfl) (fun Γ e1 e2 e3 e4 e5 => by subst e1; subst e3; subst e4; subst e5; exact wMd_findSame e2 hl x0 x1 S h)
/-! MatchPipeModel.isMask(III)Z -/
def yMd_isMask : MethodName := ⟨"MatchPipeModel", "isMask", "(III)Z"⟩
def tMd_isMask : tM := (prog_14_method_35_code, "MatchPipeModel", 7, "isMask", some .boolean, [])
def rMd_isMask : Room := { frames := 1, cells := 0, slots := 0, locals := 22 }
theorem kMd_isMask : cOf yMd_isMask tMd_isMask ∈ gT := gT_in 1565 (by decide +kernel) rfl
theorem iMd_isMask : Cond.initialized yMd_isMask.cls ∈ gT := gT_in 68 (by decide +kernel) rfl
theorem mMd_isMask : okM yMd_isMask 3 := ⟨by decide, by decide, by unfold nPar; decide +kernel⟩
theorem nMd_isMask : Cond.instanceMethod yMd_isMask ∈ gT := gT_in 1564 (by decide +kernel) rfl
theorem lMd_isMask : Cond.selects "MatchPipeModel" yMd_isMask yMd_isMask ∈ gT := gT_in 37 (by decide +kernel) rfl
def fMd_isMask_41  (x2 : Int32) (x6 : Int32) (S : Sx) : Option (Int32 × Sx) :=
    if x2 = 1 then
    (if (x6 &&& (x6 + 1)) = 0 then
    (some (1, S))
    else
    (some (0, S)))
    else
    (some (0, S))
set_option maxRecDepth 100000 in
set_option maxHeartbeats 4000000 in
theorem wMd_isMask_41 {Γ : vG} (hR : gR Γ = rMd_isMask) (hl : (gl Γ).flags = pinnedFlags ++ [noTraceFlag]) {X : Int32 × Sx}  : ∀ (x2 : Int32) (x6 : Int32) (S : Sx), fMd_isMask_41  x2 x6 S = some X → vV Γ tMd_isMask (mQ Γ 0 0 0 (some (.int X.1)) X.2) S 0 0 41 [(2, .int x2), (6, .int x6)] [] := by
  intro x2 x6 S h
  unfold fMd_isMask_41 at h
  refine v_iload_n (pc := 41) (show decode (tC tMd_isMask) 41 = .ok (.iload_n 2, 1) by decide +kernel) 0 rfl rfl ?_
  refine v_iconst (pc := 42) (v := 1) (show decode (tC tMd_isMask) 42 = .ok (.iconst 1, 1) by decide +kernel) (by decide) ?_
  refine v_icmp_ne (pc := 43) 60 (show decode (tC tMd_isMask) 43 = .ok (.if_icmp .ne 17, 3) by decide +kernel) (by decide) (fun c => ?_) (fun c => ?_)
  · replace h := ite_f c h
    refine v_iconst (pc := 60) (v := 0) (show decode (tC tMd_isMask) 60 = .ok (.iconst 0, 1) by decide +kernel) (by decide) ?_
    obtain rfl := Option.some.inj h
    refine v_wide (ce2 := 0) (sl2 := 0) (by decide) (by decide) ?_
    exact v_zret (pc := 61) rfl (Or.inl rfl) (show decode (tC tMd_isMask) 61 = .ok (.ireturn, 1) by decide +kernel)
  · replace h := ite_t c h
    refine v_iload (pc := 46) (show decode (tC tMd_isMask) 46 = .ok (.iload 6, 2) by decide +kernel) 1 rfl ?_
    refine v_iload (pc := 48) (show decode (tC tMd_isMask) 48 = .ok (.iload 6, 2) by decide +kernel) 1 rfl ?_
    refine v_iconst (pc := 50) (v := 1) (show decode (tC tMd_isMask) 50 = .ok (.iconst 1, 1) by decide +kernel) (by decide) ?_
    refine v_iadd (pc := 51) (show decode (tC tMd_isMask) 51 = .ok (.iadd, 1) by decide +kernel) ?_
    refine v_iand (pc := 52) (show decode (tC tMd_isMask) 52 = .ok (.iand, 1) by decide +kernel) ?_
    refine v_if_ne (pc := 53) 60 (show decode (tC tMd_isMask) 53 = .ok (.ifCond .ne 7, 3) by decide +kernel) (by decide) (fun c => ?_) (fun c => ?_)
    · replace h := ite_f c h
      refine v_iconst (pc := 60) (v := 0) (show decode (tC tMd_isMask) 60 = .ok (.iconst 0, 1) by decide +kernel) (by decide) ?_
      obtain rfl := Option.some.inj h
      refine v_wide (ce2 := 0) (sl2 := 0) (by decide) (by decide) ?_
      exact v_zret (pc := 61) rfl (Or.inl rfl) (show decode (tC tMd_isMask) 61 = .ok (.ireturn, 1) by decide +kernel)
    · replace h := ite_t c h
      refine v_iconst (pc := 56) (v := 1) (show decode (tC tMd_isMask) 56 = .ok (.iconst 1, 1) by decide +kernel) (by decide) ?_
      refine v_goto (pc := 57) 61 (show decode (tC tMd_isMask) 57 = .ok (.goto 4, 3) by decide +kernel) (by decide) ?_
      obtain rfl := Option.some.inj h
      refine v_wide (ce2 := 0) (sl2 := 0) (by decide) (by decide) ?_
      exact v_zret (pc := 61) rfl (Or.inr rfl) (show decode (tC tMd_isMask) 61 = .ok (.ireturn, 1) by decide +kernel)
def fMd_isMask (x0 : Nat) (x1 : Int32) (x2 : Int32) (x3 : Int32) (S : Sx) : Option (Int32 × Sx) :=
    (ckd S x0 12).bind fun _ =>
    bd2 (fMd_cut x0 x1 x3 S) fun r3 S4 =>
    (ckd S4 x0 12).bind fun _ =>
    bd2 (fMd_cut x0 x1 (-1) S4) fun r7 S8 =>
    if x2 = 2 then
    (some (1, S8))
    else
    (if x2 = 0 then
    (if r3 = r7 then
    (some (1, S8))
    else
    (fMd_isMask_41  x2 (r7 &&& (r3 ^^^ (-1))) S8))
    else
    (fMd_isMask_41  x2 (r7 &&& (r3 ^^^ (-1))) S8))
set_option maxRecDepth 100000 in
set_option maxHeartbeats 4000000 in
theorem wMd_isMask {Γ : vG} (hR : gR Γ = rMd_isMask) (hl : (gl Γ).flags = pinnedFlags ++ [noTraceFlag]) (x0 : Nat) (x1 : Int32) (x2 : Int32) (x3 : Int32) (S : Sx) {X : Int32 × Sx} (h : fMd_isMask x0 x1 x2 x3 S = some X) : vV Γ tMd_isMask (mQ Γ 0 0 0 (some (.int X.1)) X.2) S 0 0 0 [(0, .ref x0), (1, .int x1), (2, .int x2), (3, .int x3)] [] := by
  unfold fMd_isMask at h
  refine v_aload_n (pc := 0) (show decode (tC tMd_isMask) 0 = .ok (.aload_n 0, 1) by decide +kernel) 0 rfl rfl ?_
  refine v_iload_n (pc := 1) (show decode (tC tMd_isMask) 1 = .ok (.iload_n 1, 1) by decide +kernel) 1 rfl rfl ?_
  refine v_iload_n (pc := 2) (show decode (tC tMd_isMask) 2 = .ok (.iload_n 3, 1) by decide +kernel) 3 rfl rfl ?_
  obtain ⟨_, e2, h⟩ := ob h
  obtain ⟨r3, S4, e1, h⟩ := ob2 h
  refine v_call (pc := 3) (v := (some (.int r3))) (y := yMd_cut) (θ' := tMd_cut) (rm := rMd_cut) (av := [.ref x0, .int x1, .int x3]) (st := []) (cMd_cut (l := gl Γ) hl e1) kMd_cut iMd_cut (iv_virt (y := yMd_cut) (θ' := tMd_cut) (kd := 12) (As := [.int x1, .int x3]) rfl (ckd_of e2) kMd_cut (gT_in 1566 (by decide +kernel) rfl) nMd_cut lMd_cut mMd_cut rfl (show decode (tC tMd_isMask) 3 = .ok (.invokevirtual 284, 3) by decide +kernel)) ⟨by rw [hR]; decide, by rw [hR]; decide, by rw [hR]; decide, by rw [hR]; decide⟩ (Nat.le_of_ble_eq_true rfl) ?_
  refine v_istore (pc := 6) [(4, .int r3), (0, .ref x0), (1, .int x1), (2, .int x2), (3, .int x3)] (show decode (tC tMd_isMask) 6 = .ok (.istore 4, 2) by decide +kernel) (by decide) rfl ?_
  refine v_aload_n (pc := 8) (show decode (tC tMd_isMask) 8 = .ok (.aload_n 0, 1) by decide +kernel) 1 rfl rfl ?_
  refine v_iload_n (pc := 9) (show decode (tC tMd_isMask) 9 = .ok (.iload_n 1, 1) by decide +kernel) 2 rfl rfl ?_
  refine v_iconst (pc := 10) (v := (-1)) (show decode (tC tMd_isMask) 10 = .ok (.iconst (-1), 1) by decide +kernel) (by decide) ?_
  obtain ⟨_, e6, h⟩ := ob h
  obtain ⟨r7, S8, e5, h⟩ := ob2 h
  refine v_call (pc := 11) (v := (some (.int r7))) (y := yMd_cut) (θ' := tMd_cut) (rm := rMd_cut) (av := [.ref x0, .int x1, .int (-1)]) (st := []) (cMd_cut (l := gl Γ) hl e5) kMd_cut iMd_cut (iv_virt (y := yMd_cut) (θ' := tMd_cut) (kd := 12) (As := [.int x1, .int (-1)]) rfl (ckd_of e6) kMd_cut (gT_in 1566 (by decide +kernel) rfl) nMd_cut lMd_cut mMd_cut rfl (show decode (tC tMd_isMask) 11 = .ok (.invokevirtual 284, 3) by decide +kernel)) ⟨by rw [hR]; decide, by rw [hR]; decide, by rw [hR]; decide, by rw [hR]; decide⟩ (Nat.le_of_ble_eq_true rfl) ?_
  refine v_istore (pc := 14) [(5, .int r7), (4, .int r3), (0, .ref x0), (1, .int x1), (2, .int x2), (3, .int x3)] (show decode (tC tMd_isMask) 14 = .ok (.istore 5, 2) by decide +kernel) (by decide) rfl ?_
  refine v_iload (pc := 16) (show decode (tC tMd_isMask) 16 = .ok (.iload 5, 2) by decide +kernel) 0 rfl ?_
  refine v_iload (pc := 18) (show decode (tC tMd_isMask) 18 = .ok (.iload 4, 2) by decide +kernel) 1 rfl ?_
  refine v_iconst (pc := 20) (v := (-1)) (show decode (tC tMd_isMask) 20 = .ok (.iconst (-1), 1) by decide +kernel) (by decide) ?_
  refine v_ixor (pc := 21) (show decode (tC tMd_isMask) 21 = .ok (.ixor, 1) by decide +kernel) ?_
  refine v_iand (pc := 22) (show decode (tC tMd_isMask) 22 = .ok (.iand, 1) by decide +kernel) ?_
  refine v_istore (pc := 23) [(6, .int (r7 &&& (r3 ^^^ (-1)))), (5, .int r7), (4, .int r3), (0, .ref x0), (1, .int x1), (2, .int x2), (3, .int x3)] (show decode (tC tMd_isMask) 23 = .ok (.istore 6, 2) by decide +kernel) (by decide) rfl ?_
  refine v_iload_n (pc := 25) (show decode (tC tMd_isMask) 25 = .ok (.iload_n 2, 1) by decide +kernel) 5 rfl rfl ?_
  refine v_iconst (pc := 26) (v := 2) (show decode (tC tMd_isMask) 26 = .ok (.iconst 2, 1) by decide +kernel) (by decide) ?_
  refine v_icmp_eq (pc := 27) 56 (show decode (tC tMd_isMask) 27 = .ok (.if_icmp .eq 29, 3) by decide +kernel) (by decide) (fun c => ?_) (fun c => ?_)
  · replace h := ite_t c h
    refine v_iconst (pc := 56) (v := 1) (show decode (tC tMd_isMask) 56 = .ok (.iconst 1, 1) by decide +kernel) (by decide) ?_
    refine v_goto (pc := 57) 61 (show decode (tC tMd_isMask) 57 = .ok (.goto 4, 3) by decide +kernel) (by decide) ?_
    obtain rfl := Option.some.inj h
    refine v_wide (ce2 := 0) (sl2 := 0) (by decide) (by decide) ?_
    exact v_zret (pc := 61) rfl (Or.inr rfl) (show decode (tC tMd_isMask) 61 = .ok (.ireturn, 1) by decide +kernel)
  · replace h := ite_f c h
    refine v_iload_n (pc := 30) (show decode (tC tMd_isMask) 30 = .ok (.iload_n 2, 1) by decide +kernel) 5 rfl rfl ?_
    refine v_if_ne (pc := 31) 41 (show decode (tC tMd_isMask) 31 = .ok (.ifCond .ne 10, 3) by decide +kernel) (by decide) (fun c => ?_) (fun c => ?_)
    · replace h := ite_f c h
      refine v_sub [(2, .int x2), (6, .int (r7 &&& (r3 ^^^ (-1))))] [5, 0] rfl ?_
      exact wMd_isMask_41 hR hl  x2 (r7 &&& (r3 ^^^ (-1))) S8 h
    · replace h := ite_t c h
      refine v_iload (pc := 34) (show decode (tC tMd_isMask) 34 = .ok (.iload 4, 2) by decide +kernel) 2 rfl ?_
      refine v_iload (pc := 36) (show decode (tC tMd_isMask) 36 = .ok (.iload 5, 2) by decide +kernel) 1 rfl ?_
      refine v_icmp_eq (pc := 38) 56 (show decode (tC tMd_isMask) 38 = .ok (.if_icmp .eq 18, 3) by decide +kernel) (by decide) (fun c => ?_) (fun c => ?_)
      · replace h := ite_t c h
        refine v_iconst (pc := 56) (v := 1) (show decode (tC tMd_isMask) 56 = .ok (.iconst 1, 1) by decide +kernel) (by decide) ?_
        refine v_goto (pc := 57) 61 (show decode (tC tMd_isMask) 57 = .ok (.goto 4, 3) by decide +kernel) (by decide) ?_
        obtain rfl := Option.some.inj h
        refine v_wide (ce2 := 0) (sl2 := 0) (by decide) (by decide) ?_
        exact v_zret (pc := 61) rfl (Or.inr rfl) (show decode (tC tMd_isMask) 61 = .ok (.ireturn, 1) by decide +kernel)
      · replace h := ite_f c h
        refine v_sub [(2, .int x2), (6, .int (r7 &&& (r3 ^^^ (-1))))] [5, 0] rfl ?_
        exact wMd_isMask_41 hR hl  x2 (r7 &&& (r3 ^^^ (-1))) S8 h
theorem cMd_isMask {l : Launch} (hl : l.flags = pinnedFlags ++ [noTraceFlag]) {D : va_G} {dA : Nat → ClassId} {B : Nat} {x0 : Nat} {x1 : Int32} {x2 : Int32} {x3 : Int32} {S : Sx} {X : Int32 × Sx} (h : fMd_isMask x0 x1 x2 x3 S = some X) : Mx l yMd_isMask tMd_isMask rMd_isMask 0 0 D dA B S [.ref x0, .int x1, .int x2, .int x3] 0 (some (.int X.1)) X.2 :=
  mx_of hl (by decide) rfl rfl (Nat.le_of_ble_eq_true rfl) (fun Γ e1 e2 e3 e4 e5 => by subst e1; subst e3; subst e4; subst e5; exact wMd_isMask e2 hl x0 x1 x2 x3 S h)
/-! MatchPipeModel.entryComes()Z -/
def yMd_entryComes : MethodName := ⟨"MatchPipeModel", "entryComes", "()Z"⟩
def tMd_entryComes : tM := (prog_14_method_39_code, "MatchPipeModel", 7, "entryComes", some .boolean, [])
def rMd_entryComes : Room := { frames := 3, cells := 0, slots := 0, locals := 70 }
theorem kMd_entryComes : cOf yMd_entryComes tMd_entryComes ∈ gT := gT_in 1561 (by decide +kernel) rfl
theorem iMd_entryComes : Cond.initialized yMd_entryComes.cls ∈ gT := gT_in 68 (by decide +kernel) rfl
theorem mMd_entryComes : okM yMd_entryComes 0 := ⟨by decide, by decide, by unfold nPar; decide +kernel⟩
theorem nMd_entryComes : Cond.instanceMethod yMd_entryComes ∈ gT := gT_in 1560 (by decide +kernel) rfl
theorem lMd_entryComes : Cond.selects "MatchPipeModel" yMd_entryComes yMd_entryComes ∈ gT := gT_in 36 (by decide +kernel) rfl
def fMd_entryComes_236  (x0 : Nat) (x1 : Int32) (x4 : Int32) (x6 : Int32) (S : Sx) : Option (Int32 × Sx) :=
    (gX S 12 40 x0).bind fun v1 =>
    (gX S 12 62 x0).bind fun v3 =>
    (aI S v3 0).bind fun v5 =>
    (qI S v1 x6 v5).bind fun S7 =>
    (gX S7 12 41 x0).bind fun v9 =>
    (qI S7 v9 x6 x4).bind fun S11 =>
    (gX S11 12 42 x0).bind fun v13 =>
    (gX S11 12 64 x0).bind fun v15 =>
    (aI S11 v15 0).bind fun v17 =>
    (qI S11 v13 x6 v17).bind fun S19 =>
    (gX S19 12 43 x0).bind fun v21 =>
    (gX S19 12 65 x0).bind fun v23 =>
    (aI S19 v23 0).bind fun v25 =>
    (qI S19 v21 x6 v25).bind fun S27 =>
    (gX S27 12 35 x0).bind fun v29 =>
    (aI S27 v29 x1).bind fun v31 =>
    (qI S27 v29 x1 (v31 + 1)).bind fun S33 =>
    some (1, S33)
set_option maxRecDepth 100000 in
set_option maxHeartbeats 4000000 in
theorem wMd_entryComes_236 {Γ : vG} (hR : gR Γ = rMd_entryComes) (hl : (gl Γ).flags = pinnedFlags ++ [noTraceFlag]) {X : Int32 × Sx}  : ∀ (x0 : Nat) (x1 : Int32) (x4 : Int32) (x6 : Int32) (S : Sx), fMd_entryComes_236  x0 x1 x4 x6 S = some X → vV Γ tMd_entryComes (mQ Γ 0 0 0 (some (.int X.1)) X.2) S 0 0 236 [(0, .ref x0), (1, .int x1), (4, .int x4), (6, .int x6)] [] := by
  intro x0 x1 x4 x6 S h
  unfold fMd_entryComes_236 at h
  refine v_aload_n (pc := 236) (show decode (tC tMd_entryComes) 236 = .ok (.aload_n 0, 1) by decide +kernel) 0 rfl rfl ?_
  obtain ⟨v1, e2, h⟩ := ob h
  refine v_getX (pc := 237) oF_Md_104 e2 (show decode (tC tMd_entryComes) 237 = .ok (.getfield 104, 3) by decide +kernel) ?_
  refine v_iload (pc := 240) (show decode (tC tMd_entryComes) 240 = .ok (.iload 6, 2) by decide +kernel) 3 rfl ?_
  refine v_aload_n (pc := 242) (show decode (tC tMd_entryComes) 242 = .ok (.aload_n 0, 1) by decide +kernel) 0 rfl rfl ?_
  obtain ⟨v3, e4, h⟩ := ob h
  refine v_getX (pc := 243) oF_Md_140 e4 (show decode (tC tMd_entryComes) 243 = .ok (.getfield 140, 3) by decide +kernel) ?_
  refine v_iconst (pc := 246) (v := 0) (show decode (tC tMd_entryComes) 246 = .ok (.iconst 0, 1) by decide +kernel) (by decide) ?_
  obtain ⟨v5, e6, h⟩ := ob h
  refine v_iald (pc := 247) e6 (show decode (tC tMd_entryComes) 247 = .ok (.iaload, 1) by decide +kernel) ?_
  obtain ⟨S7, e8, h⟩ := ob h
  refine v_iast (pc := 248) e8 (show decode (tC tMd_entryComes) 248 = .ok (.iastore, 1) by decide +kernel) ?_
  refine v_aload_n (pc := 249) (show decode (tC tMd_entryComes) 249 = .ok (.aload_n 0, 1) by decide +kernel) 0 rfl rfl ?_
  obtain ⟨v9, e10, h⟩ := ob h
  refine v_getX (pc := 250) oF_Md_107 e10 (show decode (tC tMd_entryComes) 250 = .ok (.getfield 107, 3) by decide +kernel) ?_
  refine v_iload (pc := 253) (show decode (tC tMd_entryComes) 253 = .ok (.iload 6, 2) by decide +kernel) 3 rfl ?_
  refine v_iload (pc := 255) (show decode (tC tMd_entryComes) 255 = .ok (.iload 4, 2) by decide +kernel) 2 rfl ?_
  obtain ⟨S11, e12, h⟩ := ob h
  refine v_iast (pc := 257) e12 (show decode (tC tMd_entryComes) 257 = .ok (.iastore, 1) by decide +kernel) ?_
  refine v_aload_n (pc := 258) (show decode (tC tMd_entryComes) 258 = .ok (.aload_n 0, 1) by decide +kernel) 0 rfl rfl ?_
  obtain ⟨v13, e14, h⟩ := ob h
  refine v_getX (pc := 259) oF_Md_110 e14 (show decode (tC tMd_entryComes) 259 = .ok (.getfield 110, 3) by decide +kernel) ?_
  refine v_iload (pc := 262) (show decode (tC tMd_entryComes) 262 = .ok (.iload 6, 2) by decide +kernel) 3 rfl ?_
  refine v_aload_n (pc := 264) (show decode (tC tMd_entryComes) 264 = .ok (.aload_n 0, 1) by decide +kernel) 0 rfl rfl ?_
  obtain ⟨v15, e16, h⟩ := ob h
  refine v_getX (pc := 265) oF_Md_146 e16 (show decode (tC tMd_entryComes) 265 = .ok (.getfield 146, 3) by decide +kernel) ?_
  refine v_iconst (pc := 268) (v := 0) (show decode (tC tMd_entryComes) 268 = .ok (.iconst 0, 1) by decide +kernel) (by decide) ?_
  obtain ⟨v17, e18, h⟩ := ob h
  refine v_iald (pc := 269) e18 (show decode (tC tMd_entryComes) 269 = .ok (.iaload, 1) by decide +kernel) ?_
  obtain ⟨S19, e20, h⟩ := ob h
  refine v_iast (pc := 270) e20 (show decode (tC tMd_entryComes) 270 = .ok (.iastore, 1) by decide +kernel) ?_
  refine v_aload_n (pc := 271) (show decode (tC tMd_entryComes) 271 = .ok (.aload_n 0, 1) by decide +kernel) 0 rfl rfl ?_
  obtain ⟨v21, e22, h⟩ := ob h
  refine v_getX (pc := 272) oF_Md_113 e22 (show decode (tC tMd_entryComes) 272 = .ok (.getfield 113, 3) by decide +kernel) ?_
  refine v_iload (pc := 275) (show decode (tC tMd_entryComes) 275 = .ok (.iload 6, 2) by decide +kernel) 3 rfl ?_
  refine v_aload_n (pc := 277) (show decode (tC tMd_entryComes) 277 = .ok (.aload_n 0, 1) by decide +kernel) 0 rfl rfl ?_
  obtain ⟨v23, e24, h⟩ := ob h
  refine v_getX (pc := 278) oF_Md_149 e24 (show decode (tC tMd_entryComes) 278 = .ok (.getfield 149, 3) by decide +kernel) ?_
  refine v_iconst (pc := 281) (v := 0) (show decode (tC tMd_entryComes) 281 = .ok (.iconst 0, 1) by decide +kernel) (by decide) ?_
  obtain ⟨v25, e26, h⟩ := ob h
  refine v_iald (pc := 282) e26 (show decode (tC tMd_entryComes) 282 = .ok (.iaload, 1) by decide +kernel) ?_
  obtain ⟨S27, e28, h⟩ := ob h
  refine v_iast (pc := 283) e28 (show decode (tC tMd_entryComes) 283 = .ok (.iastore, 1) by decide +kernel) ?_
  refine v_aload_n (pc := 284) (show decode (tC tMd_entryComes) 284 = .ok (.aload_n 0, 1) by decide +kernel) 0 rfl rfl ?_
  obtain ⟨v29, e30, h⟩ := ob h
  refine v_getX (pc := 285) oF_Md_89 e30 (show decode (tC tMd_entryComes) 285 = .ok (.getfield 89, 3) by decide +kernel) ?_
  refine v_iload_n (pc := 288) (show decode (tC tMd_entryComes) 288 = .ok (.iload_n 1, 1) by decide +kernel) 1 rfl rfl ?_
  refine v_dup2_11 (pc := 289) (show decode (tC tMd_entryComes) 289 = .ok (.dup2, 1) by decide +kernel) rfl rfl ?_
  obtain ⟨v31, e32, h⟩ := ob h
  refine v_iald (pc := 290) e32 (show decode (tC tMd_entryComes) 290 = .ok (.iaload, 1) by decide +kernel) ?_
  refine v_iconst (pc := 291) (v := 1) (show decode (tC tMd_entryComes) 291 = .ok (.iconst 1, 1) by decide +kernel) (by decide) ?_
  refine v_iadd (pc := 292) (show decode (tC tMd_entryComes) 292 = .ok (.iadd, 1) by decide +kernel) ?_
  obtain ⟨S33, e34, h⟩ := ob h
  refine v_iast (pc := 293) e34 (show decode (tC tMd_entryComes) 293 = .ok (.iastore, 1) by decide +kernel) ?_
  refine v_iconst (pc := 294) (v := 1) (show decode (tC tMd_entryComes) 294 = .ok (.iconst 1, 1) by decide +kernel) (by decide) ?_
  obtain rfl := Option.some.inj h
  refine v_wide (ce2 := 0) (sl2 := 0) (by decide) (by decide) ?_
  exact v_zret (pc := 295) rfl (Or.inr rfl) (show decode (tC tMd_entryComes) 295 = .ok (.ireturn, 1) by decide +kernel)
def fMd_entryComes_122  (x0 : Nat) (x1 : Int32) (x2 : Int32) (x3 : Int32) (x4 : Int32) (z0 : Int32) (S : Sx) : Option (Int32 × Sx) :=
    if z0 = 0 then
    (some (0, S))
    else
    ((gX S 12 35 x0).bind fun v1 =>
    (aI S v1 x1).bind fun v3 =>
    (gX S 12 37 x0).bind fun v5 =>
    (gX S 12 61 x0).bind fun v7 =>
    (aI S v7 1).bind fun v9 =>
    (ckd S x0 12).bind fun _ =>
    bd2 (fMd_cut x0 x2 v9 S) fun r13 S14 =>
    (qI S14 v5 ((20 * x1) + v3) r13).bind fun S15 =>
    (gX S15 12 36 x0).bind fun v17 =>
    (gX S15 12 61 x0).bind fun v19 =>
    (aI S15 v19 0).bind fun v21 =>
    (ckd S15 x0 12).bind fun _ =>
    bd2 (fMd_cut x0 x2 v21 S15) fun r25 S26 =>
    (gX S26 12 37 x0).bind fun v27 =>
    (aI S26 v27 ((20 * x1) + v3)).bind fun v29 =>
    (qI S26 v17 ((20 * x1) + v3) (r25 &&& v29)).bind fun S31 =>
    if x3 < 0 then
    (fMd_entryComes_236  x0 x1 x4 ((20 * x1) + v3) S31)
    else
    ((gX S31 12 39 x0).bind fun v33 =>
    (gX S31 12 61 x0).bind fun v35 =>
    (aI S31 v35 3).bind fun v37 =>
    (ckd S31 x0 12).bind fun _ =>
    bd2 (fMd_cut x0 x3 v37 S31) fun r41 S42 =>
    (qI S42 v33 ((20 * x1) + v3) r41).bind fun S43 =>
    (gX S43 12 38 x0).bind fun v45 =>
    (gX S43 12 61 x0).bind fun v47 =>
    (aI S43 v47 2).bind fun v49 =>
    (ckd S43 x0 12).bind fun _ =>
    bd2 (fMd_cut x0 x3 v49 S43) fun r53 S54 =>
    (gX S54 12 39 x0).bind fun v55 =>
    (aI S54 v55 ((20 * x1) + v3)).bind fun v57 =>
    (qI S54 v45 ((20 * x1) + v3) (r53 &&& v57)).bind fun S59 =>
    fMd_entryComes_236  x0 x1 x4 ((20 * x1) + v3) S59))
set_option maxRecDepth 100000 in
set_option maxHeartbeats 4000000 in
theorem wMd_entryComes_122 {Γ : vG} (hR : gR Γ = rMd_entryComes) (hl : (gl Γ).flags = pinnedFlags ++ [noTraceFlag]) {X : Int32 × Sx}  : ∀ (x0 : Nat) (x1 : Int32) (x2 : Int32) (x3 : Int32) (x4 : Int32) (z0 : Int32) (S : Sx), fMd_entryComes_122  x0 x1 x2 x3 x4 z0 S = some X → vV Γ tMd_entryComes (mQ Γ 0 0 0 (some (.int X.1)) X.2) S 0 0 122 [(0, .ref x0), (1, .int x1), (2, .int x2), (3, .int x3), (4, .int x4)] [.int z0] := by
  intro x0 x1 x2 x3 x4 z0 S h
  unfold fMd_entryComes_122 at h
  refine v_istore (pc := 122) [(5, .int z0), (0, .ref x0), (1, .int x1), (2, .int x2), (3, .int x3), (4, .int x4)] (show decode (tC tMd_entryComes) 122 = .ok (.istore 5, 2) by decide +kernel) (by decide) rfl ?_
  refine v_iload (pc := 124) (show decode (tC tMd_entryComes) 124 = .ok (.iload 5, 2) by decide +kernel) 0 rfl ?_
  refine v_if_ne (pc := 126) 131 (show decode (tC tMd_entryComes) 126 = .ok (.ifCond .ne 5, 3) by decide +kernel) (by decide) (fun c => ?_) (fun c => ?_)
  · replace h := ite_f c h
    refine v_bipush (pc := 131) (v := 20) (show decode (tC tMd_entryComes) 131 = .ok (.bipush 20, 2) by decide +kernel) (by decide) ?_
    refine v_iload_n (pc := 133) (show decode (tC tMd_entryComes) 133 = .ok (.iload_n 1, 1) by decide +kernel) 2 rfl rfl ?_
    refine v_imul (pc := 134) (show decode (tC tMd_entryComes) 134 = .ok (.imul, 1) by decide +kernel) ?_
    refine v_aload_n (pc := 135) (show decode (tC tMd_entryComes) 135 = .ok (.aload_n 0, 1) by decide +kernel) 1 rfl rfl ?_
    obtain ⟨v1, e2, h⟩ := ob h
    refine v_getX (pc := 136) oF_Md_89 e2 (show decode (tC tMd_entryComes) 136 = .ok (.getfield 89, 3) by decide +kernel) ?_
    refine v_iload_n (pc := 139) (show decode (tC tMd_entryComes) 139 = .ok (.iload_n 1, 1) by decide +kernel) 2 rfl rfl ?_
    obtain ⟨v3, e4, h⟩ := ob h
    refine v_iald (pc := 140) e4 (show decode (tC tMd_entryComes) 140 = .ok (.iaload, 1) by decide +kernel) ?_
    refine v_iadd (pc := 141) (show decode (tC tMd_entryComes) 141 = .ok (.iadd, 1) by decide +kernel) ?_
    refine v_istore (pc := 142) [(6, .int ((20 * x1) + v3)), (5, .int z0), (0, .ref x0), (1, .int x1), (2, .int x2), (3, .int x3), (4, .int x4)] (show decode (tC tMd_entryComes) 142 = .ok (.istore 6, 2) by decide +kernel) (by decide) rfl ?_
    refine v_aload_n (pc := 144) (show decode (tC tMd_entryComes) 144 = .ok (.aload_n 0, 1) by decide +kernel) 2 rfl rfl ?_
    obtain ⟨v5, e6, h⟩ := ob h
    refine v_getX (pc := 145) oF_Md_95 e6 (show decode (tC tMd_entryComes) 145 = .ok (.getfield 95, 3) by decide +kernel) ?_
    refine v_iload (pc := 148) (show decode (tC tMd_entryComes) 148 = .ok (.iload 6, 2) by decide +kernel) 0 rfl ?_
    refine v_aload_n (pc := 150) (show decode (tC tMd_entryComes) 150 = .ok (.aload_n 0, 1) by decide +kernel) 2 rfl rfl ?_
    refine v_iload_n (pc := 151) (show decode (tC tMd_entryComes) 151 = .ok (.iload_n 2, 1) by decide +kernel) 4 rfl rfl ?_
    refine v_aload_n (pc := 152) (show decode (tC tMd_entryComes) 152 = .ok (.aload_n 0, 1) by decide +kernel) 2 rfl rfl ?_
    obtain ⟨v7, e8, h⟩ := ob h
    refine v_getX (pc := 153) oF_Md_137 e8 (show decode (tC tMd_entryComes) 153 = .ok (.getfield 137, 3) by decide +kernel) ?_
    refine v_iconst (pc := 156) (v := 1) (show decode (tC tMd_entryComes) 156 = .ok (.iconst 1, 1) by decide +kernel) (by decide) ?_
    obtain ⟨v9, e10, h⟩ := ob h
    refine v_iald (pc := 157) e10 (show decode (tC tMd_entryComes) 157 = .ok (.iaload, 1) by decide +kernel) ?_
    obtain ⟨_, e12, h⟩ := ob h
    obtain ⟨r13, S14, e11, h⟩ := ob2 h
    refine v_call (pc := 158) (v := (some (.int r13))) (y := yMd_cut) (θ' := tMd_cut) (rm := rMd_cut) (av := [.ref x0, .int x2, .int v9]) (st := [.int ((20 * x1) + v3), .ref v5]) (cMd_cut (l := gl Γ) hl e11) kMd_cut iMd_cut (iv_virt (y := yMd_cut) (θ' := tMd_cut) (kd := 12) (As := [.int x2, .int v9]) rfl (ckd_of e12) kMd_cut (gT_in 1566 (by decide +kernel) rfl) nMd_cut lMd_cut mMd_cut rfl (show decode (tC tMd_entryComes) 158 = .ok (.invokevirtual 284, 3) by decide +kernel)) ⟨by rw [hR]; decide, by rw [hR]; decide, by rw [hR]; decide, by rw [hR]; decide⟩ (Nat.le_of_ble_eq_true rfl) ?_
    obtain ⟨S15, e16, h⟩ := ob h
    refine v_iast (pc := 161) e16 (show decode (tC tMd_entryComes) 161 = .ok (.iastore, 1) by decide +kernel) ?_
    refine v_aload_n (pc := 162) (show decode (tC tMd_entryComes) 162 = .ok (.aload_n 0, 1) by decide +kernel) 2 rfl rfl ?_
    obtain ⟨v17, e18, h⟩ := ob h
    refine v_getX (pc := 163) oF_Md_92 e18 (show decode (tC tMd_entryComes) 163 = .ok (.getfield 92, 3) by decide +kernel) ?_
    refine v_iload (pc := 166) (show decode (tC tMd_entryComes) 166 = .ok (.iload 6, 2) by decide +kernel) 0 rfl ?_
    refine v_aload_n (pc := 168) (show decode (tC tMd_entryComes) 168 = .ok (.aload_n 0, 1) by decide +kernel) 2 rfl rfl ?_
    refine v_iload_n (pc := 169) (show decode (tC tMd_entryComes) 169 = .ok (.iload_n 2, 1) by decide +kernel) 4 rfl rfl ?_
    refine v_aload_n (pc := 170) (show decode (tC tMd_entryComes) 170 = .ok (.aload_n 0, 1) by decide +kernel) 2 rfl rfl ?_
    obtain ⟨v19, e20, h⟩ := ob h
    refine v_getX (pc := 171) oF_Md_137 e20 (show decode (tC tMd_entryComes) 171 = .ok (.getfield 137, 3) by decide +kernel) ?_
    refine v_iconst (pc := 174) (v := 0) (show decode (tC tMd_entryComes) 174 = .ok (.iconst 0, 1) by decide +kernel) (by decide) ?_
    obtain ⟨v21, e22, h⟩ := ob h
    refine v_iald (pc := 175) e22 (show decode (tC tMd_entryComes) 175 = .ok (.iaload, 1) by decide +kernel) ?_
    obtain ⟨_, e24, h⟩ := ob h
    obtain ⟨r25, S26, e23, h⟩ := ob2 h
    refine v_call (pc := 176) (v := (some (.int r25))) (y := yMd_cut) (θ' := tMd_cut) (rm := rMd_cut) (av := [.ref x0, .int x2, .int v21]) (st := [.int ((20 * x1) + v3), .ref v17]) (cMd_cut (l := gl Γ) hl e23) kMd_cut iMd_cut (iv_virt (y := yMd_cut) (θ' := tMd_cut) (kd := 12) (As := [.int x2, .int v21]) rfl (ckd_of e24) kMd_cut (gT_in 1566 (by decide +kernel) rfl) nMd_cut lMd_cut mMd_cut rfl (show decode (tC tMd_entryComes) 176 = .ok (.invokevirtual 284, 3) by decide +kernel)) ⟨by rw [hR]; decide, by rw [hR]; decide, by rw [hR]; decide, by rw [hR]; decide⟩ (Nat.le_of_ble_eq_true rfl) ?_
    refine v_aload_n (pc := 179) (show decode (tC tMd_entryComes) 179 = .ok (.aload_n 0, 1) by decide +kernel) 2 rfl rfl ?_
    obtain ⟨v27, e28, h⟩ := ob h
    refine v_getX (pc := 180) oF_Md_95 e28 (show decode (tC tMd_entryComes) 180 = .ok (.getfield 95, 3) by decide +kernel) ?_
    refine v_iload (pc := 183) (show decode (tC tMd_entryComes) 183 = .ok (.iload 6, 2) by decide +kernel) 0 rfl ?_
    obtain ⟨v29, e30, h⟩ := ob h
    refine v_iald (pc := 185) e30 (show decode (tC tMd_entryComes) 185 = .ok (.iaload, 1) by decide +kernel) ?_
    refine v_iand (pc := 186) (show decode (tC tMd_entryComes) 186 = .ok (.iand, 1) by decide +kernel) ?_
    obtain ⟨S31, e32, h⟩ := ob h
    refine v_iast (pc := 187) e32 (show decode (tC tMd_entryComes) 187 = .ok (.iastore, 1) by decide +kernel) ?_
    refine v_iload_n (pc := 188) (show decode (tC tMd_entryComes) 188 = .ok (.iload_n 3, 1) by decide +kernel) 5 rfl rfl ?_
    refine v_if_lt (pc := 189) 236 (show decode (tC tMd_entryComes) 189 = .ok (.ifCond .lt 47, 3) by decide +kernel) (by decide) (fun c => ?_) (fun c => ?_)
    · replace h := ite_t c h
      refine v_sub [(0, .ref x0), (1, .int x1), (4, .int x4), (6, .int ((20 * x1) + v3))] [2, 3, 6, 0] rfl ?_
      exact wMd_entryComes_236 hR hl  x0 x1 x4 ((20 * x1) + v3) S31 h
    · replace h := ite_f c h
      refine v_aload_n (pc := 192) (show decode (tC tMd_entryComes) 192 = .ok (.aload_n 0, 1) by decide +kernel) 2 rfl rfl ?_
      obtain ⟨v33, e34, h⟩ := ob h
      refine v_getX (pc := 193) oF_Md_101 e34 (show decode (tC tMd_entryComes) 193 = .ok (.getfield 101, 3) by decide +kernel) ?_
      refine v_iload (pc := 196) (show decode (tC tMd_entryComes) 196 = .ok (.iload 6, 2) by decide +kernel) 0 rfl ?_
      refine v_aload_n (pc := 198) (show decode (tC tMd_entryComes) 198 = .ok (.aload_n 0, 1) by decide +kernel) 2 rfl rfl ?_
      refine v_iload_n (pc := 199) (show decode (tC tMd_entryComes) 199 = .ok (.iload_n 3, 1) by decide +kernel) 5 rfl rfl ?_
      refine v_aload_n (pc := 200) (show decode (tC tMd_entryComes) 200 = .ok (.aload_n 0, 1) by decide +kernel) 2 rfl rfl ?_
      obtain ⟨v35, e36, h⟩ := ob h
      refine v_getX (pc := 201) oF_Md_137 e36 (show decode (tC tMd_entryComes) 201 = .ok (.getfield 137, 3) by decide +kernel) ?_
      refine v_iconst (pc := 204) (v := 3) (show decode (tC tMd_entryComes) 204 = .ok (.iconst 3, 1) by decide +kernel) (by decide) ?_
      obtain ⟨v37, e38, h⟩ := ob h
      refine v_iald (pc := 205) e38 (show decode (tC tMd_entryComes) 205 = .ok (.iaload, 1) by decide +kernel) ?_
      obtain ⟨_, e40, h⟩ := ob h
      obtain ⟨r41, S42, e39, h⟩ := ob2 h
      refine v_call (pc := 206) (v := (some (.int r41))) (y := yMd_cut) (θ' := tMd_cut) (rm := rMd_cut) (av := [.ref x0, .int x3, .int v37]) (st := [.int ((20 * x1) + v3), .ref v33]) (cMd_cut (l := gl Γ) hl e39) kMd_cut iMd_cut (iv_virt (y := yMd_cut) (θ' := tMd_cut) (kd := 12) (As := [.int x3, .int v37]) rfl (ckd_of e40) kMd_cut (gT_in 1566 (by decide +kernel) rfl) nMd_cut lMd_cut mMd_cut rfl (show decode (tC tMd_entryComes) 206 = .ok (.invokevirtual 284, 3) by decide +kernel)) ⟨by rw [hR]; decide, by rw [hR]; decide, by rw [hR]; decide, by rw [hR]; decide⟩ (Nat.le_of_ble_eq_true rfl) ?_
      obtain ⟨S43, e44, h⟩ := ob h
      refine v_iast (pc := 209) e44 (show decode (tC tMd_entryComes) 209 = .ok (.iastore, 1) by decide +kernel) ?_
      refine v_aload_n (pc := 210) (show decode (tC tMd_entryComes) 210 = .ok (.aload_n 0, 1) by decide +kernel) 2 rfl rfl ?_
      obtain ⟨v45, e46, h⟩ := ob h
      refine v_getX (pc := 211) oF_Md_98 e46 (show decode (tC tMd_entryComes) 211 = .ok (.getfield 98, 3) by decide +kernel) ?_
      refine v_iload (pc := 214) (show decode (tC tMd_entryComes) 214 = .ok (.iload 6, 2) by decide +kernel) 0 rfl ?_
      refine v_aload_n (pc := 216) (show decode (tC tMd_entryComes) 216 = .ok (.aload_n 0, 1) by decide +kernel) 2 rfl rfl ?_
      refine v_iload_n (pc := 217) (show decode (tC tMd_entryComes) 217 = .ok (.iload_n 3, 1) by decide +kernel) 5 rfl rfl ?_
      refine v_aload_n (pc := 218) (show decode (tC tMd_entryComes) 218 = .ok (.aload_n 0, 1) by decide +kernel) 2 rfl rfl ?_
      obtain ⟨v47, e48, h⟩ := ob h
      refine v_getX (pc := 219) oF_Md_137 e48 (show decode (tC tMd_entryComes) 219 = .ok (.getfield 137, 3) by decide +kernel) ?_
      refine v_iconst (pc := 222) (v := 2) (show decode (tC tMd_entryComes) 222 = .ok (.iconst 2, 1) by decide +kernel) (by decide) ?_
      obtain ⟨v49, e50, h⟩ := ob h
      refine v_iald (pc := 223) e50 (show decode (tC tMd_entryComes) 223 = .ok (.iaload, 1) by decide +kernel) ?_
      obtain ⟨_, e52, h⟩ := ob h
      obtain ⟨r53, S54, e51, h⟩ := ob2 h
      refine v_call (pc := 224) (v := (some (.int r53))) (y := yMd_cut) (θ' := tMd_cut) (rm := rMd_cut) (av := [.ref x0, .int x3, .int v49]) (st := [.int ((20 * x1) + v3), .ref v45]) (cMd_cut (l := gl Γ) hl e51) kMd_cut iMd_cut (iv_virt (y := yMd_cut) (θ' := tMd_cut) (kd := 12) (As := [.int x3, .int v49]) rfl (ckd_of e52) kMd_cut (gT_in 1566 (by decide +kernel) rfl) nMd_cut lMd_cut mMd_cut rfl (show decode (tC tMd_entryComes) 224 = .ok (.invokevirtual 284, 3) by decide +kernel)) ⟨by rw [hR]; decide, by rw [hR]; decide, by rw [hR]; decide, by rw [hR]; decide⟩ (Nat.le_of_ble_eq_true rfl) ?_
      refine v_aload_n (pc := 227) (show decode (tC tMd_entryComes) 227 = .ok (.aload_n 0, 1) by decide +kernel) 2 rfl rfl ?_
      obtain ⟨v55, e56, h⟩ := ob h
      refine v_getX (pc := 228) oF_Md_101 e56 (show decode (tC tMd_entryComes) 228 = .ok (.getfield 101, 3) by decide +kernel) ?_
      refine v_iload (pc := 231) (show decode (tC tMd_entryComes) 231 = .ok (.iload 6, 2) by decide +kernel) 0 rfl ?_
      obtain ⟨v57, e58, h⟩ := ob h
      refine v_iald (pc := 233) e58 (show decode (tC tMd_entryComes) 233 = .ok (.iaload, 1) by decide +kernel) ?_
      refine v_iand (pc := 234) (show decode (tC tMd_entryComes) 234 = .ok (.iand, 1) by decide +kernel) ?_
      obtain ⟨S59, e60, h⟩ := ob h
      refine v_iast (pc := 235) e60 (show decode (tC tMd_entryComes) 235 = .ok (.iastore, 1) by decide +kernel) ?_
      refine v_sub [(0, .ref x0), (1, .int x1), (4, .int x4), (6, .int ((20 * x1) + v3))] [2, 3, 6, 0] rfl ?_
      exact wMd_entryComes_236 hR hl  x0 x1 x4 ((20 * x1) + v3) S59 h
  · replace h := ite_t c h
    refine v_iconst (pc := 129) (v := 0) (show decode (tC tMd_entryComes) 129 = .ok (.iconst 0, 1) by decide +kernel) (by decide) ?_
    obtain rfl := Option.some.inj h
    refine v_wide (ce2 := 0) (sl2 := 0) (by decide) (by decide) ?_
    exact v_zret (pc := 130) rfl (Or.inl rfl) (show decode (tC tMd_entryComes) 130 = .ok (.ireturn, 1) by decide +kernel)
def fMd_entryComes_121  (x0 : Nat) (x1 : Int32) (x2 : Int32) (x3 : Int32) (x4 : Int32) (S : Sx) : Option (Int32 × Sx) :=
    fMd_entryComes_122  x0 x1 x2 x3 x4 0 S
set_option maxRecDepth 100000 in
set_option maxHeartbeats 4000000 in
theorem wMd_entryComes_121 {Γ : vG} (hR : gR Γ = rMd_entryComes) (hl : (gl Γ).flags = pinnedFlags ++ [noTraceFlag]) {X : Int32 × Sx}  : ∀ (x0 : Nat) (x1 : Int32) (x2 : Int32) (x3 : Int32) (x4 : Int32) (S : Sx), fMd_entryComes_121  x0 x1 x2 x3 x4 S = some X → vV Γ tMd_entryComes (mQ Γ 0 0 0 (some (.int X.1)) X.2) S 0 0 121 [(0, .ref x0), (1, .int x1), (2, .int x2), (3, .int x3), (4, .int x4)] [] := by
  intro x0 x1 x2 x3 x4 S h
  unfold fMd_entryComes_121 at h
  refine v_iconst (pc := 121) (v := 0) (show decode (tC tMd_entryComes) 121 = .ok (.iconst 0, 1) by decide +kernel) (by decide) ?_
  exact wMd_entryComes_122 hR hl  x0 x1 x2 x3 x4 0 S h
def fMd_entryComes_73  (x0 : Nat) (x1 : Int32) (x2 : Int32) (x3 : Int32) (x4 : Int32) (S : Sx) : Option (Int32 × Sx) :=
    bd2 (fMd_in x4 16 S) fun r2 S3 =>
    if r2 = 0 then
    (fMd_entryComes_121  x0 x1 x2 x3 x4 S3)
    else
    ((gX S3 12 25 x0).bind fun v4 =>
    (aI S3 v4 x1).bind fun v6 =>
    if ((v6 >>> (x4 &&& 31)) &&& 1) = 1 then
    ((ckd S3 x0 12).bind fun _ =>
    bd2 (fMd_findSame x0 x1 S3) fun r10 S11 =>
    if (0 : Int32) ≤ r10 then
    (fMd_entryComes_121  x0 x1 x2 x3 x4 S11)
    else
    ((gX S11 12 35 x0).bind fun v12 =>
    (aI S11 v12 x1).bind fun v14 =>
    if (20 : Int32) ≤ v14 then
    (fMd_entryComes_121  x0 x1 x2 x3 x4 S11)
    else
    (fMd_entryComes_122  x0 x1 x2 x3 x4 1 S11)))
    else
    (fMd_entryComes_121  x0 x1 x2 x3 x4 S3))
set_option maxRecDepth 100000 in
set_option maxHeartbeats 4000000 in
theorem wMd_entryComes_73 {Γ : vG} (hR : gR Γ = rMd_entryComes) (hl : (gl Γ).flags = pinnedFlags ++ [noTraceFlag]) {X : Int32 × Sx}  : ∀ (x0 : Nat) (x1 : Int32) (x2 : Int32) (x3 : Int32) (x4 : Int32) (S : Sx), fMd_entryComes_73  x0 x1 x2 x3 x4 S = some X → vV Γ tMd_entryComes (mQ Γ 0 0 0 (some (.int X.1)) X.2) S 0 0 73 [(0, .ref x0), (1, .int x1), (2, .int x2), (3, .int x3), (4, .int x4)] [] := by
  intro x0 x1 x2 x3 x4 S h
  unfold fMd_entryComes_73 at h
  refine v_iload (pc := 73) (show decode (tC tMd_entryComes) 73 = .ok (.iload 4, 2) by decide +kernel) 4 rfl ?_
  refine v_bipush (pc := 75) (v := 16) (show decode (tC tMd_entryComes) 75 = .ok (.bipush 16, 2) by decide +kernel) (by decide) ?_
  obtain ⟨r2, S3, e1, h⟩ := ob2 h
  refine v_call (pc := 77) (v := (some (.int r2))) (y := yMd_in) (θ' := tMd_in) (rm := rMd_in) (av := [.int x4, .int 16]) (st := []) (cMd_in (l := gl Γ) hl e1) kMd_in iMd_in (iv_static (y := yMd_in) (θ' := tMd_in) (n := 2) (As := [.int x4, .int 16]) kMd_in (gT_in 1437 (by decide +kernel) rfl) sMd_in iMd_in mMd_in rfl (show decode (tC tMd_entryComes) 77 = .ok (.invokestatic 241, 3) by decide +kernel)) ⟨by rw [hR]; decide, by rw [hR]; decide, by rw [hR]; decide, by rw [hR]; decide⟩ (Nat.le_of_ble_eq_true rfl) ?_
  refine v_if_eq (pc := 80) 121 (show decode (tC tMd_entryComes) 80 = .ok (.ifCond .eq 41, 3) by decide +kernel) (by decide) (fun c => ?_) (fun c => ?_)
  · replace h := ite_t c h
    exact wMd_entryComes_121 hR hl  x0 x1 x2 x3 x4 S3 h
  · replace h := ite_f c h
    refine v_aload_n (pc := 83) (show decode (tC tMd_entryComes) 83 = .ok (.aload_n 0, 1) by decide +kernel) 0 rfl rfl ?_
    obtain ⟨v4, e5, h⟩ := ob h
    refine v_getX (pc := 84) oF_Md_61 e5 (show decode (tC tMd_entryComes) 84 = .ok (.getfield 61, 3) by decide +kernel) ?_
    refine v_iload_n (pc := 87) (show decode (tC tMd_entryComes) 87 = .ok (.iload_n 1, 1) by decide +kernel) 1 rfl rfl ?_
    obtain ⟨v6, e7, h⟩ := ob h
    refine v_iald (pc := 88) e7 (show decode (tC tMd_entryComes) 88 = .ok (.iaload, 1) by decide +kernel) ?_
    refine v_iload (pc := 89) (show decode (tC tMd_entryComes) 89 = .ok (.iload 4, 2) by decide +kernel) 4 rfl ?_
    refine v_ishr (pc := 91) (show decode (tC tMd_entryComes) 91 = .ok (.ishr, 1) by decide +kernel) ?_
    refine v_iconst (pc := 92) (v := 1) (show decode (tC tMd_entryComes) 92 = .ok (.iconst 1, 1) by decide +kernel) (by decide) ?_
    refine v_iand (pc := 93) (show decode (tC tMd_entryComes) 93 = .ok (.iand, 1) by decide +kernel) ?_
    refine v_iconst (pc := 94) (v := 1) (show decode (tC tMd_entryComes) 94 = .ok (.iconst 1, 1) by decide +kernel) (by decide) ?_
    refine v_icmp_ne (pc := 95) 121 (show decode (tC tMd_entryComes) 95 = .ok (.if_icmp .ne 26, 3) by decide +kernel) (by decide) (fun c => ?_) (fun c => ?_)
    · replace h := ite_f c h
      exact wMd_entryComes_121 hR hl  x0 x1 x2 x3 x4 S3 h
    · replace h := ite_t c h
      refine v_aload_n (pc := 98) (show decode (tC tMd_entryComes) 98 = .ok (.aload_n 0, 1) by decide +kernel) 0 rfl rfl ?_
      refine v_iload_n (pc := 99) (show decode (tC tMd_entryComes) 99 = .ok (.iload_n 1, 1) by decide +kernel) 1 rfl rfl ?_
      obtain ⟨_, e9, h⟩ := ob h
      obtain ⟨r10, S11, e8, h⟩ := ob2 h
      refine v_call (pc := 100) (v := (some (.int r10))) (y := yMd_findSame) (θ' := tMd_findSame) (rm := rMd_findSame) (av := [.ref x0, .int x1]) (st := []) (cMd_findSame (l := gl Γ) hl e8) kMd_findSame iMd_findSame (iv_virt (y := yMd_findSame) (θ' := tMd_findSame) (kd := 12) (As := [.int x1]) rfl (ckd_of e9) kMd_findSame (gT_in 1570 (by decide +kernel) rfl) nMd_findSame lMd_findSame mMd_findSame rfl (show decode (tC tMd_entryComes) 100 = .ok (.invokevirtual 295, 3) by decide +kernel)) ⟨by rw [hR]; decide, by rw [hR]; decide, by rw [hR]; decide, by rw [hR]; decide⟩ (Nat.le_of_ble_eq_true rfl) ?_
      refine v_if_ge (pc := 103) 121 (show decode (tC tMd_entryComes) 103 = .ok (.ifCond .ge 18, 3) by decide +kernel) (by decide) (fun c => ?_) (fun c => ?_)
      · replace h := ite_t c h
        exact wMd_entryComes_121 hR hl  x0 x1 x2 x3 x4 S11 h
      · replace h := ite_f c h
        refine v_aload_n (pc := 106) (show decode (tC tMd_entryComes) 106 = .ok (.aload_n 0, 1) by decide +kernel) 0 rfl rfl ?_
        obtain ⟨v12, e13, h⟩ := ob h
        refine v_getX (pc := 107) oF_Md_89 e13 (show decode (tC tMd_entryComes) 107 = .ok (.getfield 89, 3) by decide +kernel) ?_
        refine v_iload_n (pc := 110) (show decode (tC tMd_entryComes) 110 = .ok (.iload_n 1, 1) by decide +kernel) 1 rfl rfl ?_
        obtain ⟨v14, e15, h⟩ := ob h
        refine v_iald (pc := 111) e15 (show decode (tC tMd_entryComes) 111 = .ok (.iaload, 1) by decide +kernel) ?_
        refine v_bipush (pc := 112) (v := 20) (show decode (tC tMd_entryComes) 112 = .ok (.bipush 20, 2) by decide +kernel) (by decide) ?_
        refine v_icmp_ge (pc := 114) 121 (show decode (tC tMd_entryComes) 114 = .ok (.if_icmp .ge 7, 3) by decide +kernel) (by decide) (fun c => ?_) (fun c => ?_)
        · replace h := ite_t c h
          exact wMd_entryComes_121 hR hl  x0 x1 x2 x3 x4 S11 h
        · replace h := ite_f c h
          refine v_iconst (pc := 117) (v := 1) (show decode (tC tMd_entryComes) 117 = .ok (.iconst 1, 1) by decide +kernel) (by decide) ?_
          refine v_goto (pc := 118) 122 (show decode (tC tMd_entryComes) 118 = .ok (.goto 4, 3) by decide +kernel) (by decide) ?_
          exact wMd_entryComes_122 hR hl  x0 x1 x2 x3 x4 1 S11 h
def fMd_entryComes (x0 : Nat) (S : Sx) : Option (Int32 × Sx) :=
    (gX S 12 60 x0).bind fun v1 =>
    (aI S v1 0).bind fun v3 =>
    (gX S 12 21 x0).bind fun v5 =>
    (aI S v5 v3).bind fun v7 =>
    (gX S 12 22 x0).bind fun v9 =>
    (aI S v9 v3).bind fun v11 =>
    (gX S 12 63 x0).bind fun v13 =>
    (aI S v13 0).bind fun v15 =>
    (gX S 12 23 x0).bind fun v17 =>
    (aI S v17 v3).bind fun v19 =>
    (gX S 12 61 x0).bind fun v21 =>
    (aI S v21 1).bind fun v23 =>
    (ckd S x0 12).bind fun _ =>
    bd2 (fMd_isMask x0 v7 v19 v23 S) fun r27 S28 =>
    if r27 = 0 then
    (fMd_entryComes_121  x0 v3 v7 v11 v15 S28)
    else
    (if v11 < 0 then
    (fMd_entryComes_73  x0 v3 v7 v11 v15 S28)
    else
    ((gX S28 12 24 x0).bind fun v29 =>
    (aI S28 v29 v3).bind fun v31 =>
    (gX S28 12 61 x0).bind fun v33 =>
    (aI S28 v33 3).bind fun v35 =>
    (ckd S28 x0 12).bind fun _ =>
    bd2 (fMd_isMask x0 v11 v31 v35 S28) fun r39 S40 =>
    if r39 = 0 then
    (fMd_entryComes_121  x0 v3 v7 v11 v15 S40)
    else
    (fMd_entryComes_73  x0 v3 v7 v11 v15 S40)))
set_option maxRecDepth 100000 in
set_option maxHeartbeats 4000000 in
theorem wMd_entryComes {Γ : vG} (hR : gR Γ = rMd_entryComes) (hl : (gl Γ).flags = pinnedFlags ++ [noTraceFlag]) (x0 : Nat) (S : Sx) {X : Int32 × Sx} (h : fMd_entryComes x0 S = some X) : vV Γ tMd_entryComes (mQ Γ 0 0 0 (some (.int X.1)) X.2) S 0 0 0 [(0, .ref x0)] [] := by
  unfold fMd_entryComes at h
  refine v_aload_n (pc := 0) (show decode (tC tMd_entryComes) 0 = .ok (.aload_n 0, 1) by decide +kernel) 0 rfl rfl ?_
  obtain ⟨v1, e2, h⟩ := ob h
  refine v_getX (pc := 1) oF_Md_134 e2 (show decode (tC tMd_entryComes) 1 = .ok (.getfield 134, 3) by decide +kernel) ?_
  refine v_iconst (pc := 4) (v := 0) (show decode (tC tMd_entryComes) 4 = .ok (.iconst 0, 1) by decide +kernel) (by decide) ?_
  obtain ⟨v3, e4, h⟩ := ob h
  refine v_iald (pc := 5) e4 (show decode (tC tMd_entryComes) 5 = .ok (.iaload, 1) by decide +kernel) ?_
  refine v_istore_n (pc := 6) [(1, .int v3), (0, .ref x0)] (show decode (tC tMd_entryComes) 6 = .ok (.istore_n 1, 1) by decide +kernel) rfl (by decide) rfl ?_
  refine v_aload_n (pc := 7) (show decode (tC tMd_entryComes) 7 = .ok (.aload_n 0, 1) by decide +kernel) 1 rfl rfl ?_
  obtain ⟨v5, e6, h⟩ := ob h
  refine v_getX (pc := 8) oF_Md_49 e6 (show decode (tC tMd_entryComes) 8 = .ok (.getfield 49, 3) by decide +kernel) ?_
  refine v_iload_n (pc := 11) (show decode (tC tMd_entryComes) 11 = .ok (.iload_n 1, 1) by decide +kernel) 0 rfl rfl ?_
  obtain ⟨v7, e8, h⟩ := ob h
  refine v_iald (pc := 12) e8 (show decode (tC tMd_entryComes) 12 = .ok (.iaload, 1) by decide +kernel) ?_
  refine v_istore_n (pc := 13) [(2, .int v7), (1, .int v3), (0, .ref x0)] (show decode (tC tMd_entryComes) 13 = .ok (.istore_n 2, 1) by decide +kernel) rfl (by decide) rfl ?_
  refine v_aload_n (pc := 14) (show decode (tC tMd_entryComes) 14 = .ok (.aload_n 0, 1) by decide +kernel) 2 rfl rfl ?_
  obtain ⟨v9, e10, h⟩ := ob h
  refine v_getX (pc := 15) oF_Md_52 e10 (show decode (tC tMd_entryComes) 15 = .ok (.getfield 52, 3) by decide +kernel) ?_
  refine v_iload_n (pc := 18) (show decode (tC tMd_entryComes) 18 = .ok (.iload_n 1, 1) by decide +kernel) 1 rfl rfl ?_
  obtain ⟨v11, e12, h⟩ := ob h
  refine v_iald (pc := 19) e12 (show decode (tC tMd_entryComes) 19 = .ok (.iaload, 1) by decide +kernel) ?_
  refine v_istore_n (pc := 20) [(3, .int v11), (2, .int v7), (1, .int v3), (0, .ref x0)] (show decode (tC tMd_entryComes) 20 = .ok (.istore_n 3, 1) by decide +kernel) rfl (by decide) rfl ?_
  refine v_aload_n (pc := 21) (show decode (tC tMd_entryComes) 21 = .ok (.aload_n 0, 1) by decide +kernel) 3 rfl rfl ?_
  obtain ⟨v13, e14, h⟩ := ob h
  refine v_getX (pc := 22) oF_Md_143 e14 (show decode (tC tMd_entryComes) 22 = .ok (.getfield 143, 3) by decide +kernel) ?_
  refine v_iconst (pc := 25) (v := 0) (show decode (tC tMd_entryComes) 25 = .ok (.iconst 0, 1) by decide +kernel) (by decide) ?_
  obtain ⟨v15, e16, h⟩ := ob h
  refine v_iald (pc := 26) e16 (show decode (tC tMd_entryComes) 26 = .ok (.iaload, 1) by decide +kernel) ?_
  refine v_istore (pc := 27) [(4, .int v15), (3, .int v11), (2, .int v7), (1, .int v3), (0, .ref x0)] (show decode (tC tMd_entryComes) 27 = .ok (.istore 4, 2) by decide +kernel) (by decide) rfl ?_
  refine v_aload_n (pc := 29) (show decode (tC tMd_entryComes) 29 = .ok (.aload_n 0, 1) by decide +kernel) 4 rfl rfl ?_
  refine v_iload_n (pc := 30) (show decode (tC tMd_entryComes) 30 = .ok (.iload_n 2, 1) by decide +kernel) 2 rfl rfl ?_
  refine v_aload_n (pc := 31) (show decode (tC tMd_entryComes) 31 = .ok (.aload_n 0, 1) by decide +kernel) 4 rfl rfl ?_
  obtain ⟨v17, e18, h⟩ := ob h
  refine v_getX (pc := 32) oF_Md_55 e18 (show decode (tC tMd_entryComes) 32 = .ok (.getfield 55, 3) by decide +kernel) ?_
  refine v_iload_n (pc := 35) (show decode (tC tMd_entryComes) 35 = .ok (.iload_n 1, 1) by decide +kernel) 3 rfl rfl ?_
  obtain ⟨v19, e20, h⟩ := ob h
  refine v_iald (pc := 36) e20 (show decode (tC tMd_entryComes) 36 = .ok (.iaload, 1) by decide +kernel) ?_
  refine v_aload_n (pc := 37) (show decode (tC tMd_entryComes) 37 = .ok (.aload_n 0, 1) by decide +kernel) 4 rfl rfl ?_
  obtain ⟨v21, e22, h⟩ := ob h
  refine v_getX (pc := 38) oF_Md_137 e22 (show decode (tC tMd_entryComes) 38 = .ok (.getfield 137, 3) by decide +kernel) ?_
  refine v_iconst (pc := 41) (v := 1) (show decode (tC tMd_entryComes) 41 = .ok (.iconst 1, 1) by decide +kernel) (by decide) ?_
  obtain ⟨v23, e24, h⟩ := ob h
  refine v_iald (pc := 42) e24 (show decode (tC tMd_entryComes) 42 = .ok (.iaload, 1) by decide +kernel) ?_
  obtain ⟨_, e26, h⟩ := ob h
  obtain ⟨r27, S28, e25, h⟩ := ob2 h
  refine v_call (pc := 43) (v := (some (.int r27))) (y := yMd_isMask) (θ' := tMd_isMask) (rm := rMd_isMask) (av := [.ref x0, .int v7, .int v19, .int v23]) (st := []) (cMd_isMask (l := gl Γ) hl e25) kMd_isMask iMd_isMask (iv_virt (y := yMd_isMask) (θ' := tMd_isMask) (kd := 12) (As := [.int v7, .int v19, .int v23]) rfl (ckd_of e26) kMd_isMask (gT_in 1562 (by decide +kernel) rfl) nMd_isMask lMd_isMask mMd_isMask rfl (show decode (tC tMd_entryComes) 43 = .ok (.invokevirtual 291, 3) by decide +kernel)) ⟨by rw [hR]; decide, by rw [hR]; decide, by rw [hR]; decide, by rw [hR]; decide⟩ (Nat.le_of_ble_eq_true rfl) ?_
  refine v_if_eq (pc := 46) 121 (show decode (tC tMd_entryComes) 46 = .ok (.ifCond .eq 75, 3) by decide +kernel) (by decide) (fun c => ?_) (fun c => ?_)
  · replace h := ite_t c h
    refine v_sub [(0, .ref x0), (1, .int v3), (2, .int v7), (3, .int v11), (4, .int v15)] [4, 3, 2, 1, 0] rfl ?_
    exact wMd_entryComes_121 hR hl  x0 v3 v7 v11 v15 S28 h
  · replace h := ite_f c h
    refine v_iload_n (pc := 49) (show decode (tC tMd_entryComes) 49 = .ok (.iload_n 3, 1) by decide +kernel) 1 rfl rfl ?_
    refine v_if_lt (pc := 50) 73 (show decode (tC tMd_entryComes) 50 = .ok (.ifCond .lt 23, 3) by decide +kernel) (by decide) (fun c => ?_) (fun c => ?_)
    · replace h := ite_t c h
      refine v_sub [(0, .ref x0), (1, .int v3), (2, .int v7), (3, .int v11), (4, .int v15)] [4, 3, 2, 1, 0] rfl ?_
      exact wMd_entryComes_73 hR hl  x0 v3 v7 v11 v15 S28 h
    · replace h := ite_f c h
      refine v_aload_n (pc := 53) (show decode (tC tMd_entryComes) 53 = .ok (.aload_n 0, 1) by decide +kernel) 4 rfl rfl ?_
      refine v_iload_n (pc := 54) (show decode (tC tMd_entryComes) 54 = .ok (.iload_n 3, 1) by decide +kernel) 1 rfl rfl ?_
      refine v_aload_n (pc := 55) (show decode (tC tMd_entryComes) 55 = .ok (.aload_n 0, 1) by decide +kernel) 4 rfl rfl ?_
      obtain ⟨v29, e30, h⟩ := ob h
      refine v_getX (pc := 56) oF_Md_58 e30 (show decode (tC tMd_entryComes) 56 = .ok (.getfield 58, 3) by decide +kernel) ?_
      refine v_iload_n (pc := 59) (show decode (tC tMd_entryComes) 59 = .ok (.iload_n 1, 1) by decide +kernel) 3 rfl rfl ?_
      obtain ⟨v31, e32, h⟩ := ob h
      refine v_iald (pc := 60) e32 (show decode (tC tMd_entryComes) 60 = .ok (.iaload, 1) by decide +kernel) ?_
      refine v_aload_n (pc := 61) (show decode (tC tMd_entryComes) 61 = .ok (.aload_n 0, 1) by decide +kernel) 4 rfl rfl ?_
      obtain ⟨v33, e34, h⟩ := ob h
      refine v_getX (pc := 62) oF_Md_137 e34 (show decode (tC tMd_entryComes) 62 = .ok (.getfield 137, 3) by decide +kernel) ?_
      refine v_iconst (pc := 65) (v := 3) (show decode (tC tMd_entryComes) 65 = .ok (.iconst 3, 1) by decide +kernel) (by decide) ?_
      obtain ⟨v35, e36, h⟩ := ob h
      refine v_iald (pc := 66) e36 (show decode (tC tMd_entryComes) 66 = .ok (.iaload, 1) by decide +kernel) ?_
      obtain ⟨_, e38, h⟩ := ob h
      obtain ⟨r39, S40, e37, h⟩ := ob2 h
      refine v_call (pc := 67) (v := (some (.int r39))) (y := yMd_isMask) (θ' := tMd_isMask) (rm := rMd_isMask) (av := [.ref x0, .int v11, .int v31, .int v35]) (st := []) (cMd_isMask (l := gl Γ) hl e37) kMd_isMask iMd_isMask (iv_virt (y := yMd_isMask) (θ' := tMd_isMask) (kd := 12) (As := [.int v11, .int v31, .int v35]) rfl (ckd_of e38) kMd_isMask (gT_in 1562 (by decide +kernel) rfl) nMd_isMask lMd_isMask mMd_isMask rfl (show decode (tC tMd_entryComes) 67 = .ok (.invokevirtual 291, 3) by decide +kernel)) ⟨by rw [hR]; decide, by rw [hR]; decide, by rw [hR]; decide, by rw [hR]; decide⟩ (Nat.le_of_ble_eq_true rfl) ?_
      refine v_if_eq (pc := 70) 121 (show decode (tC tMd_entryComes) 70 = .ok (.ifCond .eq 51, 3) by decide +kernel) (by decide) (fun c => ?_) (fun c => ?_)
      · replace h := ite_t c h
        refine v_sub [(0, .ref x0), (1, .int v3), (2, .int v7), (3, .int v11), (4, .int v15)] [4, 3, 2, 1, 0] rfl ?_
        exact wMd_entryComes_121 hR hl  x0 v3 v7 v11 v15 S40 h
      · replace h := ite_f c h
        refine v_sub [(0, .ref x0), (1, .int v3), (2, .int v7), (3, .int v11), (4, .int v15)] [4, 3, 2, 1, 0] rfl ?_
        exact wMd_entryComes_73 hR hl  x0 v3 v7 v11 v15 S40 h
theorem cMd_entryComes {l : Launch} (hl : l.flags = pinnedFlags ++ [noTraceFlag]) {D : va_G} {dA : Nat → ClassId} {B : Nat} {x0 : Nat} {S : Sx} {X : Int32 × Sx} (h : fMd_entryComes x0 S = some X) : Mx l yMd_entryComes tMd_entryComes rMd_entryComes 0 0 D dA B S [.ref x0] 0 (some (.int X.1)) X.2 :=
  mx_of hl (by decide) rfl rfl (Nat.le_of_ble_eq_true rfl) (fun Γ e1 e2 e3 e4 e5 => by subst e1; subst e3; subst e4; subst e5; exact wMd_entryComes e2 hl x0 S h)
/-! MatchPipeModel.entryGoes()Z -/
def yMd_entryGoes : MethodName := ⟨"MatchPipeModel", "entryGoes", "()Z"⟩
def tMd_entryGoes : tM := (prog_14_method_40_code, "MatchPipeModel", 4, "entryGoes", some .boolean, [])
def rMd_entryGoes : Room := { frames := 3, cells := 0, slots := 0, locals := 70 }
theorem kMd_entryGoes : cOf yMd_entryGoes tMd_entryGoes ∈ gT := gT_in 1581 (by decide +kernel) rfl
theorem iMd_entryGoes : Cond.initialized yMd_entryGoes.cls ∈ gT := gT_in 68 (by decide +kernel) rfl
theorem mMd_entryGoes : okM yMd_entryGoes 0 := ⟨by decide, by decide, by unfold nPar; decide +kernel⟩
theorem nMd_entryGoes : Cond.instanceMethod yMd_entryGoes ∈ gT := gT_in 1580 (by decide +kernel) rfl
theorem lMd_entryGoes : Cond.selects "MatchPipeModel" yMd_entryGoes yMd_entryGoes ∈ gT := gT_in 41 (by decide +kernel) rfl
def fMd_entryGoes_31  : Nat → Nat → Int32 → Int32 → Sx → Option (Int32 × Sx)
  | 0, _, _, _, _ => none
  | n + 1, x0, x1, x3, S =>
    (gX S 12 35 x0).bind fun v1 =>
    (aI S v1 x1).bind fun v3 =>
    if ((20 * x1) + v3) ≤ x3 then
    (some (1, S))
    else
    ((gX S 12 36 x0).bind fun v5 =>
    (gX S 12 36 x0).bind fun v7 =>
    (aI S v7 (x3 + 1)).bind fun v9 =>
    (qI S v5 x3 v9).bind fun S11 =>
    (gX S11 12 37 x0).bind fun v13 =>
    (gX S11 12 37 x0).bind fun v15 =>
    (aI S11 v15 (x3 + 1)).bind fun v17 =>
    (qI S11 v13 x3 v17).bind fun S19 =>
    (gX S19 12 38 x0).bind fun v21 =>
    (gX S19 12 38 x0).bind fun v23 =>
    (aI S19 v23 (x3 + 1)).bind fun v25 =>
    (qI S19 v21 x3 v25).bind fun S27 =>
    (gX S27 12 39 x0).bind fun v29 =>
    (gX S27 12 39 x0).bind fun v31 =>
    (aI S27 v31 (x3 + 1)).bind fun v33 =>
    (qI S27 v29 x3 v33).bind fun S35 =>
    (gX S35 12 40 x0).bind fun v37 =>
    (gX S35 12 40 x0).bind fun v39 =>
    (aI S35 v39 (x3 + 1)).bind fun v41 =>
    (qI S35 v37 x3 v41).bind fun S43 =>
    (gX S43 12 41 x0).bind fun v45 =>
    (gX S43 12 41 x0).bind fun v47 =>
    (aI S43 v47 (x3 + 1)).bind fun v49 =>
    (qI S43 v45 x3 v49).bind fun S51 =>
    (gX S51 12 42 x0).bind fun v53 =>
    (gX S51 12 42 x0).bind fun v55 =>
    (aI S51 v55 (x3 + 1)).bind fun v57 =>
    (qI S51 v53 x3 v57).bind fun S59 =>
    (gX S59 12 43 x0).bind fun v61 =>
    (gX S59 12 43 x0).bind fun v63 =>
    (aI S59 v63 (x3 + 1)).bind fun v65 =>
    (qI S59 v61 x3 v65).bind fun S67 =>
    fMd_entryGoes_31 n x0 x1 (x3 + 1) S67)
set_option maxRecDepth 100000 in
set_option maxHeartbeats 4000000 in
theorem wMd_entryGoes_31 {Γ : vG} (hR : gR Γ = rMd_entryGoes) (hl : (gl Γ).flags = pinnedFlags ++ [noTraceFlag]) {X : Int32 × Sx}  : ∀ (n : Nat) (x0 : Nat) (x1 : Int32) (x3 : Int32) (S : Sx), fMd_entryGoes_31  n x0 x1 x3 S = some X → vV Γ tMd_entryGoes (mQ Γ 0 0 0 (some (.int X.1)) X.2) S 0 0 31 [(0, .ref x0), (1, .int x1), (3, .int x3)] [] := by
  intro n
  induction n with
  | zero => intro x0 x1 x3 S h; rw [fMd_entryGoes_31] at h; cases h
  | succ n ih =>
    intro x0 x1 x3 S h
    rw [fMd_entryGoes_31] at h
    refine v_iload_n (pc := 31) (show decode (tC tMd_entryGoes) 31 = .ok (.iload_n 3, 1) by decide +kernel) 2 rfl rfl ?_
    refine v_bipush (pc := 32) (v := 20) (show decode (tC tMd_entryGoes) 32 = .ok (.bipush 20, 2) by decide +kernel) (by decide) ?_
    refine v_iload_n (pc := 34) (show decode (tC tMd_entryGoes) 34 = .ok (.iload_n 1, 1) by decide +kernel) 1 rfl rfl ?_
    refine v_imul (pc := 35) (show decode (tC tMd_entryGoes) 35 = .ok (.imul, 1) by decide +kernel) ?_
    refine v_aload_n (pc := 36) (show decode (tC tMd_entryGoes) 36 = .ok (.aload_n 0, 1) by decide +kernel) 0 rfl rfl ?_
    obtain ⟨v1, e2, h⟩ := ob h
    refine v_getX (pc := 37) oF_Md_89 e2 (show decode (tC tMd_entryGoes) 37 = .ok (.getfield 89, 3) by decide +kernel) ?_
    refine v_iload_n (pc := 40) (show decode (tC tMd_entryGoes) 40 = .ok (.iload_n 1, 1) by decide +kernel) 1 rfl rfl ?_
    obtain ⟨v3, e4, h⟩ := ob h
    refine v_iald (pc := 41) e4 (show decode (tC tMd_entryGoes) 41 = .ok (.iaload, 1) by decide +kernel) ?_
    refine v_iadd (pc := 42) (show decode (tC tMd_entryGoes) 42 = .ok (.iadd, 1) by decide +kernel) ?_
    refine v_icmp_ge (pc := 43) 164 (show decode (tC tMd_entryGoes) 43 = .ok (.if_icmp .ge 121, 3) by decide +kernel) (by decide) (fun c => ?_) (fun c => ?_)
    · replace h := ite_t c h
      refine v_iconst (pc := 164) (v := 1) (show decode (tC tMd_entryGoes) 164 = .ok (.iconst 1, 1) by decide +kernel) (by decide) ?_
      obtain rfl := Option.some.inj h
      refine v_wide (ce2 := 0) (sl2 := 0) (by decide) (by decide) ?_
      exact v_zret (pc := 165) rfl (Or.inr rfl) (show decode (tC tMd_entryGoes) 165 = .ok (.ireturn, 1) by decide +kernel)
    · replace h := ite_f c h
      refine v_aload_n (pc := 46) (show decode (tC tMd_entryGoes) 46 = .ok (.aload_n 0, 1) by decide +kernel) 0 rfl rfl ?_
      obtain ⟨v5, e6, h⟩ := ob h
      refine v_getX (pc := 47) oF_Md_92 e6 (show decode (tC tMd_entryGoes) 47 = .ok (.getfield 92, 3) by decide +kernel) ?_
      refine v_iload_n (pc := 50) (show decode (tC tMd_entryGoes) 50 = .ok (.iload_n 3, 1) by decide +kernel) 2 rfl rfl ?_
      refine v_aload_n (pc := 51) (show decode (tC tMd_entryGoes) 51 = .ok (.aload_n 0, 1) by decide +kernel) 0 rfl rfl ?_
      obtain ⟨v7, e8, h⟩ := ob h
      refine v_getX (pc := 52) oF_Md_92 e8 (show decode (tC tMd_entryGoes) 52 = .ok (.getfield 92, 3) by decide +kernel) ?_
      refine v_iload_n (pc := 55) (show decode (tC tMd_entryGoes) 55 = .ok (.iload_n 3, 1) by decide +kernel) 2 rfl rfl ?_
      refine v_iconst (pc := 56) (v := 1) (show decode (tC tMd_entryGoes) 56 = .ok (.iconst 1, 1) by decide +kernel) (by decide) ?_
      refine v_iadd (pc := 57) (show decode (tC tMd_entryGoes) 57 = .ok (.iadd, 1) by decide +kernel) ?_
      obtain ⟨v9, e10, h⟩ := ob h
      refine v_iald (pc := 58) e10 (show decode (tC tMd_entryGoes) 58 = .ok (.iaload, 1) by decide +kernel) ?_
      obtain ⟨S11, e12, h⟩ := ob h
      refine v_iast (pc := 59) e12 (show decode (tC tMd_entryGoes) 59 = .ok (.iastore, 1) by decide +kernel) ?_
      refine v_aload_n (pc := 60) (show decode (tC tMd_entryGoes) 60 = .ok (.aload_n 0, 1) by decide +kernel) 0 rfl rfl ?_
      obtain ⟨v13, e14, h⟩ := ob h
      refine v_getX (pc := 61) oF_Md_95 e14 (show decode (tC tMd_entryGoes) 61 = .ok (.getfield 95, 3) by decide +kernel) ?_
      refine v_iload_n (pc := 64) (show decode (tC tMd_entryGoes) 64 = .ok (.iload_n 3, 1) by decide +kernel) 2 rfl rfl ?_
      refine v_aload_n (pc := 65) (show decode (tC tMd_entryGoes) 65 = .ok (.aload_n 0, 1) by decide +kernel) 0 rfl rfl ?_
      obtain ⟨v15, e16, h⟩ := ob h
      refine v_getX (pc := 66) oF_Md_95 e16 (show decode (tC tMd_entryGoes) 66 = .ok (.getfield 95, 3) by decide +kernel) ?_
      refine v_iload_n (pc := 69) (show decode (tC tMd_entryGoes) 69 = .ok (.iload_n 3, 1) by decide +kernel) 2 rfl rfl ?_
      refine v_iconst (pc := 70) (v := 1) (show decode (tC tMd_entryGoes) 70 = .ok (.iconst 1, 1) by decide +kernel) (by decide) ?_
      refine v_iadd (pc := 71) (show decode (tC tMd_entryGoes) 71 = .ok (.iadd, 1) by decide +kernel) ?_
      obtain ⟨v17, e18, h⟩ := ob h
      refine v_iald (pc := 72) e18 (show decode (tC tMd_entryGoes) 72 = .ok (.iaload, 1) by decide +kernel) ?_
      obtain ⟨S19, e20, h⟩ := ob h
      refine v_iast (pc := 73) e20 (show decode (tC tMd_entryGoes) 73 = .ok (.iastore, 1) by decide +kernel) ?_
      refine v_aload_n (pc := 74) (show decode (tC tMd_entryGoes) 74 = .ok (.aload_n 0, 1) by decide +kernel) 0 rfl rfl ?_
      obtain ⟨v21, e22, h⟩ := ob h
      refine v_getX (pc := 75) oF_Md_98 e22 (show decode (tC tMd_entryGoes) 75 = .ok (.getfield 98, 3) by decide +kernel) ?_
      refine v_iload_n (pc := 78) (show decode (tC tMd_entryGoes) 78 = .ok (.iload_n 3, 1) by decide +kernel) 2 rfl rfl ?_
      refine v_aload_n (pc := 79) (show decode (tC tMd_entryGoes) 79 = .ok (.aload_n 0, 1) by decide +kernel) 0 rfl rfl ?_
      obtain ⟨v23, e24, h⟩ := ob h
      refine v_getX (pc := 80) oF_Md_98 e24 (show decode (tC tMd_entryGoes) 80 = .ok (.getfield 98, 3) by decide +kernel) ?_
      refine v_iload_n (pc := 83) (show decode (tC tMd_entryGoes) 83 = .ok (.iload_n 3, 1) by decide +kernel) 2 rfl rfl ?_
      refine v_iconst (pc := 84) (v := 1) (show decode (tC tMd_entryGoes) 84 = .ok (.iconst 1, 1) by decide +kernel) (by decide) ?_
      refine v_iadd (pc := 85) (show decode (tC tMd_entryGoes) 85 = .ok (.iadd, 1) by decide +kernel) ?_
      obtain ⟨v25, e26, h⟩ := ob h
      refine v_iald (pc := 86) e26 (show decode (tC tMd_entryGoes) 86 = .ok (.iaload, 1) by decide +kernel) ?_
      obtain ⟨S27, e28, h⟩ := ob h
      refine v_iast (pc := 87) e28 (show decode (tC tMd_entryGoes) 87 = .ok (.iastore, 1) by decide +kernel) ?_
      refine v_aload_n (pc := 88) (show decode (tC tMd_entryGoes) 88 = .ok (.aload_n 0, 1) by decide +kernel) 0 rfl rfl ?_
      obtain ⟨v29, e30, h⟩ := ob h
      refine v_getX (pc := 89) oF_Md_101 e30 (show decode (tC tMd_entryGoes) 89 = .ok (.getfield 101, 3) by decide +kernel) ?_
      refine v_iload_n (pc := 92) (show decode (tC tMd_entryGoes) 92 = .ok (.iload_n 3, 1) by decide +kernel) 2 rfl rfl ?_
      refine v_aload_n (pc := 93) (show decode (tC tMd_entryGoes) 93 = .ok (.aload_n 0, 1) by decide +kernel) 0 rfl rfl ?_
      obtain ⟨v31, e32, h⟩ := ob h
      refine v_getX (pc := 94) oF_Md_101 e32 (show decode (tC tMd_entryGoes) 94 = .ok (.getfield 101, 3) by decide +kernel) ?_
      refine v_iload_n (pc := 97) (show decode (tC tMd_entryGoes) 97 = .ok (.iload_n 3, 1) by decide +kernel) 2 rfl rfl ?_
      refine v_iconst (pc := 98) (v := 1) (show decode (tC tMd_entryGoes) 98 = .ok (.iconst 1, 1) by decide +kernel) (by decide) ?_
      refine v_iadd (pc := 99) (show decode (tC tMd_entryGoes) 99 = .ok (.iadd, 1) by decide +kernel) ?_
      obtain ⟨v33, e34, h⟩ := ob h
      refine v_iald (pc := 100) e34 (show decode (tC tMd_entryGoes) 100 = .ok (.iaload, 1) by decide +kernel) ?_
      obtain ⟨S35, e36, h⟩ := ob h
      refine v_iast (pc := 101) e36 (show decode (tC tMd_entryGoes) 101 = .ok (.iastore, 1) by decide +kernel) ?_
      refine v_aload_n (pc := 102) (show decode (tC tMd_entryGoes) 102 = .ok (.aload_n 0, 1) by decide +kernel) 0 rfl rfl ?_
      obtain ⟨v37, e38, h⟩ := ob h
      refine v_getX (pc := 103) oF_Md_104 e38 (show decode (tC tMd_entryGoes) 103 = .ok (.getfield 104, 3) by decide +kernel) ?_
      refine v_iload_n (pc := 106) (show decode (tC tMd_entryGoes) 106 = .ok (.iload_n 3, 1) by decide +kernel) 2 rfl rfl ?_
      refine v_aload_n (pc := 107) (show decode (tC tMd_entryGoes) 107 = .ok (.aload_n 0, 1) by decide +kernel) 0 rfl rfl ?_
      obtain ⟨v39, e40, h⟩ := ob h
      refine v_getX (pc := 108) oF_Md_104 e40 (show decode (tC tMd_entryGoes) 108 = .ok (.getfield 104, 3) by decide +kernel) ?_
      refine v_iload_n (pc := 111) (show decode (tC tMd_entryGoes) 111 = .ok (.iload_n 3, 1) by decide +kernel) 2 rfl rfl ?_
      refine v_iconst (pc := 112) (v := 1) (show decode (tC tMd_entryGoes) 112 = .ok (.iconst 1, 1) by decide +kernel) (by decide) ?_
      refine v_iadd (pc := 113) (show decode (tC tMd_entryGoes) 113 = .ok (.iadd, 1) by decide +kernel) ?_
      obtain ⟨v41, e42, h⟩ := ob h
      refine v_iald (pc := 114) e42 (show decode (tC tMd_entryGoes) 114 = .ok (.iaload, 1) by decide +kernel) ?_
      obtain ⟨S43, e44, h⟩ := ob h
      refine v_iast (pc := 115) e44 (show decode (tC tMd_entryGoes) 115 = .ok (.iastore, 1) by decide +kernel) ?_
      refine v_aload_n (pc := 116) (show decode (tC tMd_entryGoes) 116 = .ok (.aload_n 0, 1) by decide +kernel) 0 rfl rfl ?_
      obtain ⟨v45, e46, h⟩ := ob h
      refine v_getX (pc := 117) oF_Md_107 e46 (show decode (tC tMd_entryGoes) 117 = .ok (.getfield 107, 3) by decide +kernel) ?_
      refine v_iload_n (pc := 120) (show decode (tC tMd_entryGoes) 120 = .ok (.iload_n 3, 1) by decide +kernel) 2 rfl rfl ?_
      refine v_aload_n (pc := 121) (show decode (tC tMd_entryGoes) 121 = .ok (.aload_n 0, 1) by decide +kernel) 0 rfl rfl ?_
      obtain ⟨v47, e48, h⟩ := ob h
      refine v_getX (pc := 122) oF_Md_107 e48 (show decode (tC tMd_entryGoes) 122 = .ok (.getfield 107, 3) by decide +kernel) ?_
      refine v_iload_n (pc := 125) (show decode (tC tMd_entryGoes) 125 = .ok (.iload_n 3, 1) by decide +kernel) 2 rfl rfl ?_
      refine v_iconst (pc := 126) (v := 1) (show decode (tC tMd_entryGoes) 126 = .ok (.iconst 1, 1) by decide +kernel) (by decide) ?_
      refine v_iadd (pc := 127) (show decode (tC tMd_entryGoes) 127 = .ok (.iadd, 1) by decide +kernel) ?_
      obtain ⟨v49, e50, h⟩ := ob h
      refine v_iald (pc := 128) e50 (show decode (tC tMd_entryGoes) 128 = .ok (.iaload, 1) by decide +kernel) ?_
      obtain ⟨S51, e52, h⟩ := ob h
      refine v_iast (pc := 129) e52 (show decode (tC tMd_entryGoes) 129 = .ok (.iastore, 1) by decide +kernel) ?_
      refine v_aload_n (pc := 130) (show decode (tC tMd_entryGoes) 130 = .ok (.aload_n 0, 1) by decide +kernel) 0 rfl rfl ?_
      obtain ⟨v53, e54, h⟩ := ob h
      refine v_getX (pc := 131) oF_Md_110 e54 (show decode (tC tMd_entryGoes) 131 = .ok (.getfield 110, 3) by decide +kernel) ?_
      refine v_iload_n (pc := 134) (show decode (tC tMd_entryGoes) 134 = .ok (.iload_n 3, 1) by decide +kernel) 2 rfl rfl ?_
      refine v_aload_n (pc := 135) (show decode (tC tMd_entryGoes) 135 = .ok (.aload_n 0, 1) by decide +kernel) 0 rfl rfl ?_
      obtain ⟨v55, e56, h⟩ := ob h
      refine v_getX (pc := 136) oF_Md_110 e56 (show decode (tC tMd_entryGoes) 136 = .ok (.getfield 110, 3) by decide +kernel) ?_
      refine v_iload_n (pc := 139) (show decode (tC tMd_entryGoes) 139 = .ok (.iload_n 3, 1) by decide +kernel) 2 rfl rfl ?_
      refine v_iconst (pc := 140) (v := 1) (show decode (tC tMd_entryGoes) 140 = .ok (.iconst 1, 1) by decide +kernel) (by decide) ?_
      refine v_iadd (pc := 141) (show decode (tC tMd_entryGoes) 141 = .ok (.iadd, 1) by decide +kernel) ?_
      obtain ⟨v57, e58, h⟩ := ob h
      refine v_iald (pc := 142) e58 (show decode (tC tMd_entryGoes) 142 = .ok (.iaload, 1) by decide +kernel) ?_
      obtain ⟨S59, e60, h⟩ := ob h
      refine v_iast (pc := 143) e60 (show decode (tC tMd_entryGoes) 143 = .ok (.iastore, 1) by decide +kernel) ?_
      refine v_aload_n (pc := 144) (show decode (tC tMd_entryGoes) 144 = .ok (.aload_n 0, 1) by decide +kernel) 0 rfl rfl ?_
      obtain ⟨v61, e62, h⟩ := ob h
      refine v_getX (pc := 145) oF_Md_113 e62 (show decode (tC tMd_entryGoes) 145 = .ok (.getfield 113, 3) by decide +kernel) ?_
      refine v_iload_n (pc := 148) (show decode (tC tMd_entryGoes) 148 = .ok (.iload_n 3, 1) by decide +kernel) 2 rfl rfl ?_
      refine v_aload_n (pc := 149) (show decode (tC tMd_entryGoes) 149 = .ok (.aload_n 0, 1) by decide +kernel) 0 rfl rfl ?_
      obtain ⟨v63, e64, h⟩ := ob h
      refine v_getX (pc := 150) oF_Md_113 e64 (show decode (tC tMd_entryGoes) 150 = .ok (.getfield 113, 3) by decide +kernel) ?_
      refine v_iload_n (pc := 153) (show decode (tC tMd_entryGoes) 153 = .ok (.iload_n 3, 1) by decide +kernel) 2 rfl rfl ?_
      refine v_iconst (pc := 154) (v := 1) (show decode (tC tMd_entryGoes) 154 = .ok (.iconst 1, 1) by decide +kernel) (by decide) ?_
      refine v_iadd (pc := 155) (show decode (tC tMd_entryGoes) 155 = .ok (.iadd, 1) by decide +kernel) ?_
      obtain ⟨v65, e66, h⟩ := ob h
      refine v_iald (pc := 156) e66 (show decode (tC tMd_entryGoes) 156 = .ok (.iaload, 1) by decide +kernel) ?_
      obtain ⟨S67, e68, h⟩ := ob h
      refine v_iast (pc := 157) e68 (show decode (tC tMd_entryGoes) 157 = .ok (.iastore, 1) by decide +kernel) ?_
      refine v_iinc (pc := 158) (j := 2) [(3, .int (x3 + 1)), (0, .ref x0), (1, .int x1)] (show decode (tC tMd_entryGoes) 158 = .ok (.iinc 3 1, 3) by decide +kernel) rfl rfl (by decide) rfl ?_
      refine v_goto (pc := 161) 31 (show decode (tC tMd_entryGoes) 161 = .ok (.goto (-130), 3) by decide +kernel) (by decide) ?_
      refine v_sub [(0, .ref x0), (1, .int x1), (3, .int (x3 + 1))] [1, 2, 0] rfl ?_
      exact ih x0 x1 (x3 + 1) S67 h
def fMd_entryGoes (x0 : Nat) (S : Sx) : Option (Int32 × Sx) :=
    (gX S 12 60 x0).bind fun v1 =>
    (aI S v1 0).bind fun v3 =>
    (ckd S x0 12).bind fun _ =>
    bd2 (fMd_findSame x0 v3 S) fun r7 S8 =>
    if (0 : Int32) ≤ r7 then
    ((gX S8 12 35 x0).bind fun v9 =>
    (aI S8 v9 v3).bind fun v11 =>
    (qI S8 v9 v3 (v11 - 1)).bind fun S13 =>
    fMd_entryGoes_31  fuel x0 v3 r7 S13)
    else
    (some (0, S8))
set_option maxRecDepth 100000 in
set_option maxHeartbeats 4000000 in
theorem wMd_entryGoes {Γ : vG} (hR : gR Γ = rMd_entryGoes) (hl : (gl Γ).flags = pinnedFlags ++ [noTraceFlag]) (x0 : Nat) (S : Sx) {X : Int32 × Sx} (h : fMd_entryGoes x0 S = some X) : vV Γ tMd_entryGoes (mQ Γ 0 0 0 (some (.int X.1)) X.2) S 0 0 0 [(0, .ref x0)] [] := by
  unfold fMd_entryGoes at h
  refine v_aload_n (pc := 0) (show decode (tC tMd_entryGoes) 0 = .ok (.aload_n 0, 1) by decide +kernel) 0 rfl rfl ?_
  obtain ⟨v1, e2, h⟩ := ob h
  refine v_getX (pc := 1) oF_Md_134 e2 (show decode (tC tMd_entryGoes) 1 = .ok (.getfield 134, 3) by decide +kernel) ?_
  refine v_iconst (pc := 4) (v := 0) (show decode (tC tMd_entryGoes) 4 = .ok (.iconst 0, 1) by decide +kernel) (by decide) ?_
  obtain ⟨v3, e4, h⟩ := ob h
  refine v_iald (pc := 5) e4 (show decode (tC tMd_entryGoes) 5 = .ok (.iaload, 1) by decide +kernel) ?_
  refine v_istore_n (pc := 6) [(1, .int v3), (0, .ref x0)] (show decode (tC tMd_entryGoes) 6 = .ok (.istore_n 1, 1) by decide +kernel) rfl (by decide) rfl ?_
  refine v_aload_n (pc := 7) (show decode (tC tMd_entryGoes) 7 = .ok (.aload_n 0, 1) by decide +kernel) 1 rfl rfl ?_
  refine v_iload_n (pc := 8) (show decode (tC tMd_entryGoes) 8 = .ok (.iload_n 1, 1) by decide +kernel) 0 rfl rfl ?_
  obtain ⟨_, e6, h⟩ := ob h
  obtain ⟨r7, S8, e5, h⟩ := ob2 h
  refine v_call (pc := 9) (v := (some (.int r7))) (y := yMd_findSame) (θ' := tMd_findSame) (rm := rMd_findSame) (av := [.ref x0, .int v3]) (st := []) (cMd_findSame (l := gl Γ) hl e5) kMd_findSame iMd_findSame (iv_virt (y := yMd_findSame) (θ' := tMd_findSame) (kd := 12) (As := [.int v3]) rfl (ckd_of e6) kMd_findSame (gT_in 1570 (by decide +kernel) rfl) nMd_findSame lMd_findSame mMd_findSame rfl (show decode (tC tMd_entryGoes) 9 = .ok (.invokevirtual 295, 3) by decide +kernel)) ⟨by rw [hR]; decide, by rw [hR]; decide, by rw [hR]; decide, by rw [hR]; decide⟩ (Nat.le_of_ble_eq_true rfl) ?_
  refine v_istore_n (pc := 12) [(2, .int r7), (1, .int v3), (0, .ref x0)] (show decode (tC tMd_entryGoes) 12 = .ok (.istore_n 2, 1) by decide +kernel) rfl (by decide) rfl ?_
  refine v_iload_n (pc := 13) (show decode (tC tMd_entryGoes) 13 = .ok (.iload_n 2, 1) by decide +kernel) 0 rfl rfl ?_
  refine v_if_ge (pc := 14) 19 (show decode (tC tMd_entryGoes) 14 = .ok (.ifCond .ge 5, 3) by decide +kernel) (by decide) (fun c => ?_) (fun c => ?_)
  · replace h := ite_t c h
    refine v_aload_n (pc := 19) (show decode (tC tMd_entryGoes) 19 = .ok (.aload_n 0, 1) by decide +kernel) 2 rfl rfl ?_
    obtain ⟨v9, e10, h⟩ := ob h
    refine v_getX (pc := 20) oF_Md_89 e10 (show decode (tC tMd_entryGoes) 20 = .ok (.getfield 89, 3) by decide +kernel) ?_
    refine v_iload_n (pc := 23) (show decode (tC tMd_entryGoes) 23 = .ok (.iload_n 1, 1) by decide +kernel) 1 rfl rfl ?_
    refine v_dup2_11 (pc := 24) (show decode (tC tMd_entryGoes) 24 = .ok (.dup2, 1) by decide +kernel) rfl rfl ?_
    obtain ⟨v11, e12, h⟩ := ob h
    refine v_iald (pc := 25) e12 (show decode (tC tMd_entryGoes) 25 = .ok (.iaload, 1) by decide +kernel) ?_
    refine v_iconst (pc := 26) (v := 1) (show decode (tC tMd_entryGoes) 26 = .ok (.iconst 1, 1) by decide +kernel) (by decide) ?_
    refine v_isub (pc := 27) (show decode (tC tMd_entryGoes) 27 = .ok (.isub, 1) by decide +kernel) ?_
    obtain ⟨S13, e14, h⟩ := ob h
    refine v_iast (pc := 28) e14 (show decode (tC tMd_entryGoes) 28 = .ok (.iastore, 1) by decide +kernel) ?_
    refine v_iload_n (pc := 29) (show decode (tC tMd_entryGoes) 29 = .ok (.iload_n 2, 1) by decide +kernel) 0 rfl rfl ?_
    refine v_istore_n (pc := 30) [(3, .int r7), (2, .int r7), (1, .int v3), (0, .ref x0)] (show decode (tC tMd_entryGoes) 30 = .ok (.istore_n 3, 1) by decide +kernel) rfl (by decide) rfl ?_
    refine v_sub [(0, .ref x0), (1, .int v3), (3, .int r7)] [3, 2, 0] rfl ?_
    exact wMd_entryGoes_31 hR hl  fuel x0 v3 r7 S13 h
  · replace h := ite_f c h
    refine v_iconst (pc := 17) (v := 0) (show decode (tC tMd_entryGoes) 17 = .ok (.iconst 0, 1) by decide +kernel) (by decide) ?_
    obtain rfl := Option.some.inj h
    refine v_wide (ce2 := 0) (sl2 := 0) (by decide) (by decide) ?_
    exact v_zret (pc := 18) rfl (Or.inl rfl) (show decode (tC tMd_entryGoes) 18 = .ok (.ireturn, 1) by decide +kernel)
theorem cMd_entryGoes {l : Launch} (hl : l.flags = pinnedFlags ++ [noTraceFlag]) {D : va_G} {dA : Nat → ClassId} {B : Nat} {x0 : Nat} {S : Sx} {X : Int32 × Sx} (h : fMd_entryGoes x0 S = some X) : Mx l yMd_entryGoes tMd_entryGoes rMd_entryGoes 0 0 D dA B S [.ref x0] 0 (some (.int X.1)) X.2 :=
  mx_of hl (by decide) rfl rfl (Nat.le_of_ble_eq_true rfl) (fun Γ e1 e2 e3 e4 e5 => by subst e1; subst e3; subst e4; subst e5; exact wMd_entryGoes e2 hl x0 S h)
/-! MatchPipeModel.ones(I)I -/
def yMd_ones : MethodName := ⟨"MatchPipeModel", "ones", "(I)I"⟩
def tMd_ones : tM := (prog_14_method_36_code, "MatchPipeModel", 3, "ones", some .int, [])
def rMd_ones : Room := { frames := 0, cells := 0, slots := 0, locals := 0 }
theorem kMd_ones : cOf yMd_ones tMd_ones ∈ gT := gT_in 1613 (by decide +kernel) rfl
theorem iMd_ones : Cond.initialized yMd_ones.cls ∈ gT := gT_in 68 (by decide +kernel) rfl
theorem mMd_ones : okM yMd_ones 1 := ⟨by decide, by decide, by unfold nPar; decide +kernel⟩
theorem sMd_ones : Cond.static yMd_ones ∈ gT := gT_in 1612 (by decide +kernel) rfl
def fMd_ones_4  : Nat → Int32 → Int32 → Int32 → Sx → Option (Int32 × Sx)
  | 0, _, _, _, _ => none
  | n + 1, x0, x1, x2, S =>
    if (32 : Int32) ≤ x2 then
    (some (x1, S))
    else
    (fMd_ones_4 n x0 (x1 + ((x0 >>> (x2 &&& 31)) &&& 1)) (x2 + 1) S)
set_option maxRecDepth 100000 in
set_option maxHeartbeats 4000000 in
theorem wMd_ones_4 {Γ : vG} (hR : gR Γ = rMd_ones) (hl : (gl Γ).flags = pinnedFlags ++ [noTraceFlag]) {X : Int32 × Sx}  : ∀ (n : Nat) (x0 : Int32) (x1 : Int32) (x2 : Int32) (S : Sx), fMd_ones_4  n x0 x1 x2 S = some X → vV Γ tMd_ones (mQ Γ 0 0 0 (some (.int X.1)) X.2) S 0 0 4 [(0, .int x0), (1, .int x1), (2, .int x2)] [] := by
  intro n
  induction n with
  | zero => intro x0 x1 x2 S h; rw [fMd_ones_4] at h; cases h
  | succ n ih =>
    intro x0 x1 x2 S h
    rw [fMd_ones_4] at h
    refine v_iload_n (pc := 4) (show decode (tC tMd_ones) 4 = .ok (.iload_n 2, 1) by decide +kernel) 2 rfl rfl ?_
    refine v_bipush (pc := 5) (v := 32) (show decode (tC tMd_ones) 5 = .ok (.bipush 32, 2) by decide +kernel) (by decide) ?_
    refine v_icmp_ge (pc := 7) 24 (show decode (tC tMd_ones) 7 = .ok (.if_icmp .ge 17, 3) by decide +kernel) (by decide) (fun c => ?_) (fun c => ?_)
    · replace h := ite_t c h
      refine v_iload_n (pc := 24) (show decode (tC tMd_ones) 24 = .ok (.iload_n 1, 1) by decide +kernel) 1 rfl rfl ?_
      obtain rfl := Option.some.inj h
      refine v_wide (ce2 := 0) (sl2 := 0) (by decide) (by decide) ?_
      exact v_iret (pc := 25) rfl (show decode (tC tMd_ones) 25 = .ok (.ireturn, 1) by decide +kernel)
    · replace h := ite_f c h
      refine v_iload_n (pc := 10) (show decode (tC tMd_ones) 10 = .ok (.iload_n 1, 1) by decide +kernel) 1 rfl rfl ?_
      refine v_iload_n (pc := 11) (show decode (tC tMd_ones) 11 = .ok (.iload_n 0, 1) by decide +kernel) 0 rfl rfl ?_
      refine v_iload_n (pc := 12) (show decode (tC tMd_ones) 12 = .ok (.iload_n 2, 1) by decide +kernel) 2 rfl rfl ?_
      refine v_ishr (pc := 13) (show decode (tC tMd_ones) 13 = .ok (.ishr, 1) by decide +kernel) ?_
      refine v_iconst (pc := 14) (v := 1) (show decode (tC tMd_ones) 14 = .ok (.iconst 1, 1) by decide +kernel) (by decide) ?_
      refine v_iand (pc := 15) (show decode (tC tMd_ones) 15 = .ok (.iand, 1) by decide +kernel) ?_
      refine v_iadd (pc := 16) (show decode (tC tMd_ones) 16 = .ok (.iadd, 1) by decide +kernel) ?_
      refine v_istore_n (pc := 17) [(1, .int (x1 + ((x0 >>> (x2 &&& 31)) &&& 1))), (0, .int x0), (2, .int x2)] (show decode (tC tMd_ones) 17 = .ok (.istore_n 1, 1) by decide +kernel) rfl (by decide) rfl ?_
      refine v_iinc (pc := 18) (j := 2) [(2, .int (x2 + 1)), (1, .int (x1 + ((x0 >>> (x2 &&& 31)) &&& 1))), (0, .int x0)] (show decode (tC tMd_ones) 18 = .ok (.iinc 2 1, 3) by decide +kernel) rfl rfl (by decide) rfl ?_
      refine v_goto (pc := 21) 4 (show decode (tC tMd_ones) 21 = .ok (.goto (-17), 3) by decide +kernel) (by decide) ?_
      refine v_sub [(0, .int x0), (1, .int (x1 + ((x0 >>> (x2 &&& 31)) &&& 1))), (2, .int (x2 + 1))] [2, 1, 0] rfl ?_
      exact ih x0 (x1 + ((x0 >>> (x2 &&& 31)) &&& 1)) (x2 + 1) S h
def fMd_ones (x0 : Int32) (S : Sx) : Option (Int32 × Sx) :=
    fMd_ones_4  fuel x0 0 0 S
set_option maxRecDepth 100000 in
set_option maxHeartbeats 4000000 in
theorem wMd_ones {Γ : vG} (hR : gR Γ = rMd_ones) (hl : (gl Γ).flags = pinnedFlags ++ [noTraceFlag]) (x0 : Int32) (S : Sx) {X : Int32 × Sx} (h : fMd_ones x0 S = some X) : vV Γ tMd_ones (mQ Γ 0 0 0 (some (.int X.1)) X.2) S 0 0 0 [(0, .int x0)] [] := by
  unfold fMd_ones at h
  refine v_iconst (pc := 0) (v := 0) (show decode (tC tMd_ones) 0 = .ok (.iconst 0, 1) by decide +kernel) (by decide) ?_
  refine v_istore_n (pc := 1) [(1, .int 0), (0, .int x0)] (show decode (tC tMd_ones) 1 = .ok (.istore_n 1, 1) by decide +kernel) rfl (by decide) rfl ?_
  refine v_iconst (pc := 2) (v := 0) (show decode (tC tMd_ones) 2 = .ok (.iconst 0, 1) by decide +kernel) (by decide) ?_
  refine v_istore_n (pc := 3) [(2, .int 0), (1, .int 0), (0, .int x0)] (show decode (tC tMd_ones) 3 = .ok (.istore_n 2, 1) by decide +kernel) rfl (by decide) rfl ?_
  refine v_sub [(0, .int x0), (1, .int 0), (2, .int 0)] [2, 1, 0] rfl ?_
  exact wMd_ones_4 hR hl  fuel x0 0 0 S h
theorem cMd_ones {l : Launch} (hl : l.flags = pinnedFlags ++ [noTraceFlag]) {D : va_G} {dA : Nat → ClassId} {B : Nat} {x0 : Int32} {S : Sx} {X : Int32 × Sx} (h : fMd_ones x0 S = some X) : Mx l yMd_ones tMd_ones rMd_ones 0 0 D dA B S [.int x0] 0 (some (.int X.1)) X.2 :=
  mx_of hl (by decide) rfl rfl (Nat.le_of_ble_eq_true rfl) (fun Γ e1 e2 e3 e4 e5 => by subst e1; subst e3; subst e4; subst e5; exact wMd_ones e2 hl x0 S h)
/-! MatchPipeModel.readField(I)Z -/
def yMd_readField : MethodName := ⟨"MatchPipeModel", "readField", "(I)Z"⟩
def tMd_readField : tM := (prog_14_method_41_code, "MatchPipeModel", 4, "readField", some .boolean, [])
def rMd_readField : Room := { frames := 0, cells := 0, slots := 0, locals := 0 }
theorem kMd_readField : cOf yMd_readField tMd_readField ∈ gT := gT_in 1589 (by decide +kernel) rfl
theorem iMd_readField : Cond.initialized yMd_readField.cls ∈ gT := gT_in 68 (by decide +kernel) rfl
theorem mMd_readField : okM yMd_readField 1 := ⟨by decide, by decide, by unfold nPar; decide +kernel⟩
theorem nMd_readField : Cond.instanceMethod yMd_readField ∈ gT := gT_in 1588 (by decide +kernel) rfl
theorem lMd_readField : Cond.selects "MatchPipeModel" yMd_readField yMd_readField ∈ gT := gT_in 43 (by decide +kernel) rfl
def fMd_readField_38  : Nat → Nat → Int32 → Int32 → Int32 → Sx → Option (Int32 × Sx)
  | 0, _, _, _, _, _ => none
  | n + 1, x0, x1, x2, x3, S =>
    (gX S 12 8 x0).bind fun v1 =>
    (aI S v1 x1).bind fun v3 =>
    if v3 ≤ x3 then
    ((gX S 12 77 x0).bind fun v5 =>
    (qI S v5 x1 x2).bind fun S7 =>
    (gX S7 12 79 x0).bind fun v9 =>
    (qZ S7 v9 x1 1).bind fun S11 =>
    (gX S11 12 78 x0).bind fun v13 =>
    (gI S11 12 73 x0).bind fun v15 =>
    (qI S11 v13 v15 x1).bind fun S17 =>
    (gI S17 12 73 x0).bind fun v19 =>
    (pI S17 12 73 x0 (v19 + 1)).bind fun S21 =>
    some (1, S21))
    else
    ((gX S 12 59 x0).bind fun v23 =>
    (gI S 12 74 x0).bind fun v25 =>
    (aI S v23 (v25 / 8)).bind fun v28 =>
    (gI S 12 74 x0).bind fun v30 =>
    (gI S 12 74 x0).bind fun v33 =>
    (pI S 12 74 x0 (v33 + 1)).bind fun S35 =>
    fMd_readField_38 n x0 x1 ((x2 <<< (1 &&& 31)) ||| ((v28 >>> ((7 - (v30 - v30 / 8 * 8)) &&& 31)) &&& 1)) (x3 + 1) S35)
set_option maxRecDepth 100000 in
set_option maxHeartbeats 4000000 in
theorem wMd_readField_38 {Γ : vG} (hR : gR Γ = rMd_readField) (hl : (gl Γ).flags = pinnedFlags ++ [noTraceFlag]) {X : Int32 × Sx}  : ∀ (n : Nat) (x0 : Nat) (x1 : Int32) (x2 : Int32) (x3 : Int32) (S : Sx), fMd_readField_38  n x0 x1 x2 x3 S = some X → vV Γ tMd_readField (mQ Γ 0 0 0 (some (.int X.1)) X.2) S 0 0 38 [(0, .ref x0), (1, .int x1), (2, .int x2), (3, .int x3)] [] := by
  intro n
  induction n with
  | zero => intro x0 x1 x2 x3 S h; rw [fMd_readField_38] at h; cases h
  | succ n ih =>
    intro x0 x1 x2 x3 S h
    rw [fMd_readField_38] at h
    refine v_iload_n (pc := 38) (show decode (tC tMd_readField) 38 = .ok (.iload_n 3, 1) by decide +kernel) 3 rfl rfl ?_
    refine v_aload_n (pc := 39) (show decode (tC tMd_readField) 39 = .ok (.aload_n 0, 1) by decide +kernel) 0 rfl rfl ?_
    obtain ⟨v1, e2, h⟩ := ob h
    refine v_getX (pc := 40) oF_Md_7 e2 (show decode (tC tMd_readField) 40 = .ok (.getfield 7, 3) by decide +kernel) ?_
    refine v_iload_n (pc := 43) (show decode (tC tMd_readField) 43 = .ok (.iload_n 1, 1) by decide +kernel) 1 rfl rfl ?_
    obtain ⟨v3, e4, h⟩ := ob h
    refine v_iald (pc := 44) e4 (show decode (tC tMd_readField) 44 = .ok (.iaload, 1) by decide +kernel) ?_
    refine v_icmp_ge (pc := 45) 94 (show decode (tC tMd_readField) 45 = .ok (.if_icmp .ge 49, 3) by decide +kernel) (by decide) (fun c => ?_) (fun c => ?_)
    · replace h := ite_t c h
      refine v_aload_n (pc := 94) (show decode (tC tMd_readField) 94 = .ok (.aload_n 0, 1) by decide +kernel) 0 rfl rfl ?_
      obtain ⟨v5, e6, h⟩ := ob h
      refine v_getX (pc := 95) oF_Md_174 e6 (show decode (tC tMd_readField) 95 = .ok (.getfield 174, 3) by decide +kernel) ?_
      refine v_iload_n (pc := 98) (show decode (tC tMd_readField) 98 = .ok (.iload_n 1, 1) by decide +kernel) 1 rfl rfl ?_
      refine v_iload_n (pc := 99) (show decode (tC tMd_readField) 99 = .ok (.iload_n 2, 1) by decide +kernel) 2 rfl rfl ?_
      obtain ⟨S7, e8, h⟩ := ob h
      refine v_iast (pc := 100) e8 (show decode (tC tMd_readField) 100 = .ok (.iastore, 1) by decide +kernel) ?_
      refine v_aload_n (pc := 101) (show decode (tC tMd_readField) 101 = .ok (.aload_n 0, 1) by decide +kernel) 0 rfl rfl ?_
      obtain ⟨v9, e10, h⟩ := ob h
      refine v_getX (pc := 102) oF_Md_180 e10 (show decode (tC tMd_readField) 102 = .ok (.getfield 180, 3) by decide +kernel) ?_
      refine v_iload_n (pc := 105) (show decode (tC tMd_readField) 105 = .ok (.iload_n 1, 1) by decide +kernel) 1 rfl rfl ?_
      refine v_iconst (pc := 106) (v := 1) (show decode (tC tMd_readField) 106 = .ok (.iconst 1, 1) by decide +kernel) (by decide) ?_
      obtain ⟨S11, e12, h⟩ := ob h
      refine v_zast (pc := 107) e12 (show decode (tC tMd_readField) 107 = .ok (.bastore, 1) by decide +kernel) ?_
      refine v_aload_n (pc := 108) (show decode (tC tMd_readField) 108 = .ok (.aload_n 0, 1) by decide +kernel) 0 rfl rfl ?_
      obtain ⟨v13, e14, h⟩ := ob h
      refine v_getX (pc := 109) oF_Md_177 e14 (show decode (tC tMd_readField) 109 = .ok (.getfield 177, 3) by decide +kernel) ?_
      refine v_aload_n (pc := 112) (show decode (tC tMd_readField) 112 = .ok (.aload_n 0, 1) by decide +kernel) 0 rfl rfl ?_
      obtain ⟨v15, e16, h⟩ := ob h
      refine v_getI (pc := 113) oF_Md_301 (by decide) e16 (show decode (tC tMd_readField) 113 = .ok (.getfield 301, 3) by decide +kernel) ?_
      refine v_iload_n (pc := 116) (show decode (tC tMd_readField) 116 = .ok (.iload_n 1, 1) by decide +kernel) 1 rfl rfl ?_
      obtain ⟨S17, e18, h⟩ := ob h
      refine v_iast (pc := 117) e18 (show decode (tC tMd_readField) 117 = .ok (.iastore, 1) by decide +kernel) ?_
      refine v_aload_n (pc := 118) (show decode (tC tMd_readField) 118 = .ok (.aload_n 0, 1) by decide +kernel) 0 rfl rfl ?_
      refine v_dup (pc := 119) (show decode (tC tMd_readField) 119 = .ok (.dup, 1) by decide +kernel) rfl ?_
      obtain ⟨v19, e20, h⟩ := ob h
      refine v_getI (pc := 120) oF_Md_301 (by decide) e20 (show decode (tC tMd_readField) 120 = .ok (.getfield 301, 3) by decide +kernel) ?_
      refine v_iconst (pc := 123) (v := 1) (show decode (tC tMd_readField) 123 = .ok (.iconst 1, 1) by decide +kernel) (by decide) ?_
      refine v_iadd (pc := 124) (show decode (tC tMd_readField) 124 = .ok (.iadd, 1) by decide +kernel) ?_
      obtain ⟨S21, e22, h⟩ := ob h
      refine v_putI (pc := 125) oF_Md_301 (fin_ok (kd := 12) (k := 73) (by decide +kernel)) e22 (show decode (tC tMd_readField) 125 = .ok (.putfield 301, 3) by decide +kernel) ?_
      refine v_iconst (pc := 128) (v := 1) (show decode (tC tMd_readField) 128 = .ok (.iconst 1, 1) by decide +kernel) (by decide) ?_
      obtain rfl := Option.some.inj h
      refine v_wide (ce2 := 0) (sl2 := 0) (by decide) (by decide) ?_
      exact v_zret (pc := 129) rfl (Or.inr rfl) (show decode (tC tMd_readField) 129 = .ok (.ireturn, 1) by decide +kernel)
    · replace h := ite_f c h
      refine v_iload_n (pc := 48) (show decode (tC tMd_readField) 48 = .ok (.iload_n 2, 1) by decide +kernel) 2 rfl rfl ?_
      refine v_iconst (pc := 49) (v := 1) (show decode (tC tMd_readField) 49 = .ok (.iconst 1, 1) by decide +kernel) (by decide) ?_
      refine v_ishl (pc := 50) (show decode (tC tMd_readField) 50 = .ok (.ishl, 1) by decide +kernel) ?_
      refine v_aload_n (pc := 51) (show decode (tC tMd_readField) 51 = .ok (.aload_n 0, 1) by decide +kernel) 0 rfl rfl ?_
      obtain ⟨v23, e24, h⟩ := ob h
      refine v_getX (pc := 52) oF_Md_131 e24 (show decode (tC tMd_readField) 52 = .ok (.getfield 131, 3) by decide +kernel) ?_
      refine v_aload_n (pc := 55) (show decode (tC tMd_readField) 55 = .ok (.aload_n 0, 1) by decide +kernel) 0 rfl rfl ?_
      obtain ⟨v25, e26, h⟩ := ob h
      refine v_getI (pc := 56) oF_Md_298 (by decide) e26 (show decode (tC tMd_readField) 56 = .ok (.getfield 298, 3) by decide +kernel) ?_
      refine v_bipush (pc := 59) (v := 8) (show decode (tC tMd_readField) 59 = .ok (.bipush 8, 2) by decide +kernel) (by decide) ?_
      refine v_idiv (pc := 61) (show decode (tC tMd_readField) 61 = .ok (.idiv, 1) by decide +kernel) (by decide) ?_
      obtain ⟨v28, e29, h⟩ := ob h
      refine v_iald (pc := 62) e29 (show decode (tC tMd_readField) 62 = .ok (.iaload, 1) by decide +kernel) ?_
      refine v_bipush (pc := 63) (v := 7) (show decode (tC tMd_readField) 63 = .ok (.bipush 7, 2) by decide +kernel) (by decide) ?_
      refine v_aload_n (pc := 65) (show decode (tC tMd_readField) 65 = .ok (.aload_n 0, 1) by decide +kernel) 0 rfl rfl ?_
      obtain ⟨v30, e31, h⟩ := ob h
      refine v_getI (pc := 66) oF_Md_298 (by decide) e31 (show decode (tC tMd_readField) 66 = .ok (.getfield 298, 3) by decide +kernel) ?_
      refine v_bipush (pc := 69) (v := 8) (show decode (tC tMd_readField) 69 = .ok (.bipush 8, 2) by decide +kernel) (by decide) ?_
      refine v_irem (pc := 71) (show decode (tC tMd_readField) 71 = .ok (.irem, 1) by decide +kernel) (by decide) ?_
      refine v_isub (pc := 72) (show decode (tC tMd_readField) 72 = .ok (.isub, 1) by decide +kernel) ?_
      refine v_ishr (pc := 73) (show decode (tC tMd_readField) 73 = .ok (.ishr, 1) by decide +kernel) ?_
      refine v_iconst (pc := 74) (v := 1) (show decode (tC tMd_readField) 74 = .ok (.iconst 1, 1) by decide +kernel) (by decide) ?_
      refine v_iand (pc := 75) (show decode (tC tMd_readField) 75 = .ok (.iand, 1) by decide +kernel) ?_
      refine v_ior (pc := 76) (show decode (tC tMd_readField) 76 = .ok (.ior, 1) by decide +kernel) ?_
      refine v_istore_n (pc := 77) [(2, .int ((x2 <<< (1 &&& 31)) ||| ((v28 >>> ((7 - (v30 - v30 / 8 * 8)) &&& 31)) &&& 1))), (0, .ref x0), (1, .int x1), (3, .int x3)] (show decode (tC tMd_readField) 77 = .ok (.istore_n 2, 1) by decide +kernel) rfl (by decide) rfl ?_
      refine v_aload_n (pc := 78) (show decode (tC tMd_readField) 78 = .ok (.aload_n 0, 1) by decide +kernel) 1 rfl rfl ?_
      refine v_dup (pc := 79) (show decode (tC tMd_readField) 79 = .ok (.dup, 1) by decide +kernel) rfl ?_
      obtain ⟨v33, e34, h⟩ := ob h
      refine v_getI (pc := 80) oF_Md_298 (by decide) e34 (show decode (tC tMd_readField) 80 = .ok (.getfield 298, 3) by decide +kernel) ?_
      refine v_iconst (pc := 83) (v := 1) (show decode (tC tMd_readField) 83 = .ok (.iconst 1, 1) by decide +kernel) (by decide) ?_
      refine v_iadd (pc := 84) (show decode (tC tMd_readField) 84 = .ok (.iadd, 1) by decide +kernel) ?_
      obtain ⟨S35, e36, h⟩ := ob h
      refine v_putI (pc := 85) oF_Md_298 (fin_ok (kd := 12) (k := 74) (by decide +kernel)) e36 (show decode (tC tMd_readField) 85 = .ok (.putfield 298, 3) by decide +kernel) ?_
      refine v_iinc (pc := 88) (j := 3) [(3, .int (x3 + 1)), (2, .int ((x2 <<< (1 &&& 31)) ||| ((v28 >>> ((7 - (v30 - v30 / 8 * 8)) &&& 31)) &&& 1))), (0, .ref x0), (1, .int x1)] (show decode (tC tMd_readField) 88 = .ok (.iinc 3 1, 3) by decide +kernel) rfl rfl (by decide) rfl ?_
      refine v_goto (pc := 91) 38 (show decode (tC tMd_readField) 91 = .ok (.goto (-53), 3) by decide +kernel) (by decide) ?_
      refine v_sub [(0, .ref x0), (1, .int x1), (2, .int ((x2 <<< (1 &&& 31)) ||| ((v28 >>> ((7 - (v30 - v30 / 8 * 8)) &&& 31)) &&& 1))), (3, .int (x3 + 1))] [2, 3, 1, 0] rfl ?_
      exact ih x0 x1 ((x2 <<< (1 &&& 31)) ||| ((v28 >>> ((7 - (v30 - v30 / 8 * 8)) &&& 31)) &&& 1)) (x3 + 1) S35 h
def fMd_readField (x0 : Nat) (x1 : Int32) (S : Sx) : Option (Int32 × Sx) :=
    (gX S 12 79 x0).bind fun v1 =>
    (aZ S v1 x1).bind fun v3 =>
    if v3 = 0 then
    ((gI S 12 74 x0).bind fun v5 =>
    (gX S 12 8 x0).bind fun v7 =>
    (aI S v7 x1).bind fun v9 =>
    (gX S 12 58 x0).bind fun v11 =>
    (aI S v11 0).bind fun v13 =>
    if (v5 + v9) ≤ (8 * v13) then
    (fMd_readField_38  fuel x0 x1 0 0 S)
    else
    (some (0, S)))
    else
    (some (0, S))
set_option maxRecDepth 100000 in
set_option maxHeartbeats 4000000 in
theorem wMd_readField {Γ : vG} (hR : gR Γ = rMd_readField) (hl : (gl Γ).flags = pinnedFlags ++ [noTraceFlag]) (x0 : Nat) (x1 : Int32) (S : Sx) {X : Int32 × Sx} (h : fMd_readField x0 x1 S = some X) : vV Γ tMd_readField (mQ Γ 0 0 0 (some (.int X.1)) X.2) S 0 0 0 [(0, .ref x0), (1, .int x1)] [] := by
  unfold fMd_readField at h
  refine v_aload_n (pc := 0) (show decode (tC tMd_readField) 0 = .ok (.aload_n 0, 1) by decide +kernel) 0 rfl rfl ?_
  obtain ⟨v1, e2, h⟩ := ob h
  refine v_getX (pc := 1) oF_Md_180 e2 (show decode (tC tMd_readField) 1 = .ok (.getfield 180, 3) by decide +kernel) ?_
  refine v_iload_n (pc := 4) (show decode (tC tMd_readField) 4 = .ok (.iload_n 1, 1) by decide +kernel) 1 rfl rfl ?_
  obtain ⟨v3, e4, h⟩ := ob h
  refine v_zald (pc := 5) e4 (show decode (tC tMd_readField) 5 = .ok (.baload, 1) by decide +kernel) ?_
  refine v_if_ne (pc := 6) 32 (show decode (tC tMd_readField) 6 = .ok (.ifCond .ne 26, 3) by decide +kernel) (by decide) (fun c => ?_) (fun c => ?_)
  · replace h := ite_f c h
    refine v_iconst (pc := 32) (v := 0) (show decode (tC tMd_readField) 32 = .ok (.iconst 0, 1) by decide +kernel) (by decide) ?_
    obtain rfl := Option.some.inj h
    refine v_wide (ce2 := 0) (sl2 := 0) (by decide) (by decide) ?_
    exact v_zret (pc := 33) rfl (Or.inl rfl) (show decode (tC tMd_readField) 33 = .ok (.ireturn, 1) by decide +kernel)
  · replace h := ite_t c h
    refine v_aload_n (pc := 9) (show decode (tC tMd_readField) 9 = .ok (.aload_n 0, 1) by decide +kernel) 0 rfl rfl ?_
    obtain ⟨v5, e6, h⟩ := ob h
    refine v_getI (pc := 10) oF_Md_298 (by decide) e6 (show decode (tC tMd_readField) 10 = .ok (.getfield 298, 3) by decide +kernel) ?_
    refine v_aload_n (pc := 13) (show decode (tC tMd_readField) 13 = .ok (.aload_n 0, 1) by decide +kernel) 0 rfl rfl ?_
    obtain ⟨v7, e8, h⟩ := ob h
    refine v_getX (pc := 14) oF_Md_7 e8 (show decode (tC tMd_readField) 14 = .ok (.getfield 7, 3) by decide +kernel) ?_
    refine v_iload_n (pc := 17) (show decode (tC tMd_readField) 17 = .ok (.iload_n 1, 1) by decide +kernel) 1 rfl rfl ?_
    obtain ⟨v9, e10, h⟩ := ob h
    refine v_iald (pc := 18) e10 (show decode (tC tMd_readField) 18 = .ok (.iaload, 1) by decide +kernel) ?_
    refine v_iadd (pc := 19) (show decode (tC tMd_readField) 19 = .ok (.iadd, 1) by decide +kernel) ?_
    refine v_bipush (pc := 20) (v := 8) (show decode (tC tMd_readField) 20 = .ok (.bipush 8, 2) by decide +kernel) (by decide) ?_
    refine v_aload_n (pc := 22) (show decode (tC tMd_readField) 22 = .ok (.aload_n 0, 1) by decide +kernel) 0 rfl rfl ?_
    obtain ⟨v11, e12, h⟩ := ob h
    refine v_getX (pc := 23) oF_Md_128 e12 (show decode (tC tMd_readField) 23 = .ok (.getfield 128, 3) by decide +kernel) ?_
    refine v_iconst (pc := 26) (v := 0) (show decode (tC tMd_readField) 26 = .ok (.iconst 0, 1) by decide +kernel) (by decide) ?_
    obtain ⟨v13, e14, h⟩ := ob h
    refine v_iald (pc := 27) e14 (show decode (tC tMd_readField) 27 = .ok (.iaload, 1) by decide +kernel) ?_
    refine v_imul (pc := 28) (show decode (tC tMd_readField) 28 = .ok (.imul, 1) by decide +kernel) ?_
    refine v_icmp_le (pc := 29) 34 (show decode (tC tMd_readField) 29 = .ok (.if_icmp .le 5, 3) by decide +kernel) (by decide) (fun c => ?_) (fun c => ?_)
    · replace h := ite_t c h
      refine v_iconst (pc := 34) (v := 0) (show decode (tC tMd_readField) 34 = .ok (.iconst 0, 1) by decide +kernel) (by decide) ?_
      refine v_istore_n (pc := 35) [(2, .int 0), (0, .ref x0), (1, .int x1)] (show decode (tC tMd_readField) 35 = .ok (.istore_n 2, 1) by decide +kernel) rfl (by decide) rfl ?_
      refine v_iconst (pc := 36) (v := 0) (show decode (tC tMd_readField) 36 = .ok (.iconst 0, 1) by decide +kernel) (by decide) ?_
      refine v_istore_n (pc := 37) [(3, .int 0), (2, .int 0), (0, .ref x0), (1, .int x1)] (show decode (tC tMd_readField) 37 = .ok (.istore_n 3, 1) by decide +kernel) rfl (by decide) rfl ?_
      refine v_sub [(0, .ref x0), (1, .int x1), (2, .int 0), (3, .int 0)] [2, 3, 1, 0] rfl ?_
      exact wMd_readField_38 hR hl  fuel x0 x1 0 0 S h
    · replace h := ite_f c h
      refine v_iconst (pc := 32) (v := 0) (show decode (tC tMd_readField) 32 = .ok (.iconst 0, 1) by decide +kernel) (by decide) ?_
      obtain rfl := Option.some.inj h
      refine v_wide (ce2 := 0) (sl2 := 0) (by decide) (by decide) ?_
      exact v_zret (pc := 33) rfl (Or.inl rfl) (show decode (tC tMd_readField) 33 = .ok (.ireturn, 1) by decide +kernel)
theorem cMd_readField {l : Launch} (hl : l.flags = pinnedFlags ++ [noTraceFlag]) {D : va_G} {dA : Nat → ClassId} {B : Nat} {x0 : Nat} {x1 : Int32} {S : Sx} {X : Int32 × Sx} (h : fMd_readField x0 x1 S = some X) : Mx l yMd_readField tMd_readField rMd_readField 0 0 D dA B S [.ref x0, .int x1] 0 (some (.int X.1)) X.2 :=
  mx_of hl (by decide) rfl rfl (Nat.le_of_ble_eq_true rfl) (fun Γ e1 e2 e3 e4 e5 => by subst e1; subst e3; subst e4; subst e5; exact wMd_readField e2 hl x0 x1 S h)
/-! MatchPipeModel.readPacket()Z -/
def yMd_readPacket : MethodName := ⟨"MatchPipeModel", "readPacket", "()Z"⟩
def tMd_readPacket : tM := (prog_14_method_42_code, "MatchPipeModel", 5, "readPacket", some .boolean, [])
def rMd_readPacket : Room := { frames := 1, cells := 0, slots := 0, locals := 23 }
theorem kMd_readPacket : cOf yMd_readPacket tMd_readPacket ∈ gT := gT_in 1585 (by decide +kernel) rfl
theorem iMd_readPacket : Cond.initialized yMd_readPacket.cls ∈ gT := gT_in 68 (by decide +kernel) rfl
theorem mMd_readPacket : okM yMd_readPacket 0 := ⟨by decide, by decide, by unfold nPar; decide +kernel⟩
theorem nMd_readPacket : Cond.instanceMethod yMd_readPacket ∈ gT := gT_in 1584 (by decide +kernel) rfl
theorem lMd_readPacket : Cond.selects "MatchPipeModel" yMd_readPacket yMd_readPacket ∈ gT := gT_in 42 (by decide +kernel) rfl
def fMd_readPacket_178 (k124 : Nat → Int32 → Int32 → Int32 → Int32 → Sx → Option (Int32 × Sx)) (x0 : Nat) (x1 : Int32) (x2 : Int32) (x4 : Int32) (z0 : Int32) (S : Sx) : Option (Int32 × Sx) :=
    if z0 = 0 then
    (k124 x0 x1 x2 z0 (x4 + 1) S)
    else
    ((gX S 12 14 x0).bind fun v1 =>
    (aI S v1 x4).bind fun v3 =>
    k124 x0 x1 v3 z0 (x4 + 1) S)
set_option maxRecDepth 100000 in
set_option maxHeartbeats 4000000 in
theorem wMd_readPacket_178 {Γ : vG} (hR : gR Γ = rMd_readPacket) (hl : (gl Γ).flags = pinnedFlags ++ [noTraceFlag]) {X : Int32 × Sx} {k124 : Nat → Int32 → Int32 → Int32 → Int32 → Sx → Option (Int32 × Sx)} (hk124 : ∀ (x0 : Nat) (x1 : Int32) (x2 : Int32) (x3 : Int32) (x4 : Int32) (S : Sx), k124 x0 x1 x2 x3 x4 S = some X → vV Γ tMd_readPacket (mQ Γ 0 0 0 (some (.int X.1)) X.2) S 0 0 124 [(0, .ref x0), (1, .int x1), (2, .int x2), (3, .int x3), (4, .int x4)] []) : ∀ (x0 : Nat) (x1 : Int32) (x2 : Int32) (x4 : Int32) (z0 : Int32) (S : Sx), fMd_readPacket_178 k124 x0 x1 x2 x4 z0 S = some X → vV Γ tMd_readPacket (mQ Γ 0 0 0 (some (.int X.1)) X.2) S 0 0 178 [(0, .ref x0), (1, .int x1), (2, .int x2), (4, .int x4)] [.int z0] := by
  intro x0 x1 x2 x4 z0 S h
  unfold fMd_readPacket_178 at h
  refine v_istore_n (pc := 178) [(3, .int z0), (0, .ref x0), (1, .int x1), (2, .int x2), (4, .int x4)] (show decode (tC tMd_readPacket) 178 = .ok (.istore_n 3, 1) by decide +kernel) rfl (by decide) rfl ?_
  refine v_iload_n (pc := 179) (show decode (tC tMd_readPacket) 179 = .ok (.iload_n 3, 1) by decide +kernel) 0 rfl rfl ?_
  refine v_if_eq (pc := 180) 193 (show decode (tC tMd_readPacket) 180 = .ok (.ifCond .eq 13, 3) by decide +kernel) (by decide) (fun c => ?_) (fun c => ?_)
  · replace h := ite_t c h
    refine v_iload_n (pc := 193) (show decode (tC tMd_readPacket) 193 = .ok (.iload_n 2, 1) by decide +kernel) 3 rfl rfl ?_
    refine v_istore_n (pc := 194) [(2, .int x2), (3, .int z0), (0, .ref x0), (1, .int x1), (4, .int x4)] (show decode (tC tMd_readPacket) 194 = .ok (.istore_n 2, 1) by decide +kernel) rfl (by decide) rfl ?_
    refine v_iinc (pc := 195) (j := 4) [(4, .int (x4 + 1)), (2, .int x2), (3, .int z0), (0, .ref x0), (1, .int x1)] (show decode (tC tMd_readPacket) 195 = .ok (.iinc 4 1, 3) by decide +kernel) rfl rfl (by decide) rfl ?_
    refine v_goto (pc := 198) 124 (show decode (tC tMd_readPacket) 198 = .ok (.goto (-74), 3) by decide +kernel) (by decide) ?_
    refine v_sub [(0, .ref x0), (1, .int x1), (2, .int x2), (3, .int z0), (4, .int (x4 + 1))] [3, 4, 1, 2, 0] rfl ?_
    exact hk124 x0 x1 x2 z0 (x4 + 1) S h
  · replace h := ite_f c h
    refine v_aload_n (pc := 183) (show decode (tC tMd_readPacket) 183 = .ok (.aload_n 0, 1) by decide +kernel) 1 rfl rfl ?_
    obtain ⟨v1, e2, h⟩ := ob h
    refine v_getX (pc := 184) oF_Md_28 e2 (show decode (tC tMd_readPacket) 184 = .ok (.getfield 28, 3) by decide +kernel) ?_
    refine v_iload (pc := 187) (show decode (tC tMd_readPacket) 187 = .ok (.iload 4, 2) by decide +kernel) 4 rfl ?_
    obtain ⟨v3, e4, h⟩ := ob h
    refine v_iald (pc := 189) e4 (show decode (tC tMd_readPacket) 189 = .ok (.iaload, 1) by decide +kernel) ?_
    refine v_goto (pc := 190) 194 (show decode (tC tMd_readPacket) 190 = .ok (.goto 4, 3) by decide +kernel) (by decide) ?_
    refine v_istore_n (pc := 194) [(2, .int v3), (3, .int z0), (0, .ref x0), (1, .int x1), (4, .int x4)] (show decode (tC tMd_readPacket) 194 = .ok (.istore_n 2, 1) by decide +kernel) rfl (by decide) rfl ?_
    refine v_iinc (pc := 195) (j := 4) [(4, .int (x4 + 1)), (2, .int v3), (3, .int z0), (0, .ref x0), (1, .int x1)] (show decode (tC tMd_readPacket) 195 = .ok (.iinc 4 1, 3) by decide +kernel) rfl rfl (by decide) rfl ?_
    refine v_goto (pc := 198) 124 (show decode (tC tMd_readPacket) 198 = .ok (.goto (-74), 3) by decide +kernel) (by decide) ?_
    refine v_sub [(0, .ref x0), (1, .int x1), (2, .int v3), (3, .int z0), (4, .int (x4 + 1))] [3, 4, 1, 2, 0] rfl ?_
    exact hk124 x0 x1 v3 z0 (x4 + 1) S h
def fMd_readPacket_124 (k50 : Nat → Int32 → Sx → Option (Int32 × Sx)) : Nat → Nat → Int32 → Int32 → Int32 → Int32 → Sx → Option (Int32 × Sx)
  | 0, _, _, _, _, _, _ => none
  | n + 1, x0, x1, x2, x3, x4, S =>
    (gX S 12 11 x0).bind fun v1 =>
    (aI S v1 x1).bind fun v3 =>
    if ((4 * x1) + v3) ≤ x4 then
    (k50 x0 x2 S)
    else
    (if x3 = 0 then
    ((gX S 12 77 x0).bind fun v5 =>
    (gX S 12 10 x0).bind fun v7 =>
    (aI S v7 x1).bind fun v9 =>
    (aI S v5 v9).bind fun v11 =>
    (gX S 12 12 x0).bind fun v13 =>
    (aI S v13 x4).bind fun v15 =>
    (gX S 12 13 x0).bind fun v17 =>
    (aI S v17 x4).bind fun v19 =>
    if ((v11 ^^^ v15) &&& v19) = 0 then
    (fMd_readPacket_178 (fun y0 y1 y2 y3 y4 T => fMd_readPacket_124 k50 n y0 y1 y2 y3 y4 T) x0 x1 x2 x4 1 S)
    else
    (fMd_readPacket_178 (fun y0 y1 y2 y3 y4 T => fMd_readPacket_124 k50 n y0 y1 y2 y3 y4 T) x0 x1 x2 x4 0 S))
    else
    (k50 x0 x2 S))
set_option maxRecDepth 100000 in
set_option maxHeartbeats 4000000 in
theorem wMd_readPacket_124 {Γ : vG} (hR : gR Γ = rMd_readPacket) (hl : (gl Γ).flags = pinnedFlags ++ [noTraceFlag]) {X : Int32 × Sx} {k50 : Nat → Int32 → Sx → Option (Int32 × Sx)} (hk50 : ∀ (x0 : Nat) (x1 : Int32) (S : Sx), k50 x0 x1 S = some X → vV Γ tMd_readPacket (mQ Γ 0 0 0 (some (.int X.1)) X.2) S 0 0 50 [(0, .ref x0), (1, .int x1)] []) : ∀ (n : Nat) (x0 : Nat) (x1 : Int32) (x2 : Int32) (x3 : Int32) (x4 : Int32) (S : Sx), fMd_readPacket_124 k50 n x0 x1 x2 x3 x4 S = some X → vV Γ tMd_readPacket (mQ Γ 0 0 0 (some (.int X.1)) X.2) S 0 0 124 [(0, .ref x0), (1, .int x1), (2, .int x2), (3, .int x3), (4, .int x4)] [] := by
  intro n
  induction n with
  | zero => intro x0 x1 x2 x3 x4 S h; rw [fMd_readPacket_124] at h; cases h
  | succ n ih =>
    intro x0 x1 x2 x3 x4 S h
    rw [fMd_readPacket_124] at h
    refine v_iload (pc := 124) (show decode (tC tMd_readPacket) 124 = .ok (.iload 4, 2) by decide +kernel) 4 rfl ?_
    refine v_iconst (pc := 126) (v := 4) (show decode (tC tMd_readPacket) 126 = .ok (.iconst 4, 1) by decide +kernel) (by decide) ?_
    refine v_iload_n (pc := 127) (show decode (tC tMd_readPacket) 127 = .ok (.iload_n 1, 1) by decide +kernel) 1 rfl rfl ?_
    refine v_imul (pc := 128) (show decode (tC tMd_readPacket) 128 = .ok (.imul, 1) by decide +kernel) ?_
    refine v_aload_n (pc := 129) (show decode (tC tMd_readPacket) 129 = .ok (.aload_n 0, 1) by decide +kernel) 0 rfl rfl ?_
    obtain ⟨v1, e2, h⟩ := ob h
    refine v_getX (pc := 130) oF_Md_19 e2 (show decode (tC tMd_readPacket) 130 = .ok (.getfield 19, 3) by decide +kernel) ?_
    refine v_iload_n (pc := 133) (show decode (tC tMd_readPacket) 133 = .ok (.iload_n 1, 1) by decide +kernel) 1 rfl rfl ?_
    obtain ⟨v3, e4, h⟩ := ob h
    refine v_iald (pc := 134) e4 (show decode (tC tMd_readPacket) 134 = .ok (.iaload, 1) by decide +kernel) ?_
    refine v_iadd (pc := 135) (show decode (tC tMd_readPacket) 135 = .ok (.iadd, 1) by decide +kernel) ?_
    refine v_icmp_ge (pc := 136) 201 (show decode (tC tMd_readPacket) 136 = .ok (.if_icmp .ge 65, 3) by decide +kernel) (by decide) (fun c => ?_) (fun c => ?_)
    · replace h := ite_t c h
      refine v_iload_n (pc := 201) (show decode (tC tMd_readPacket) 201 = .ok (.iload_n 2, 1) by decide +kernel) 2 rfl rfl ?_
      refine v_istore_n (pc := 202) [(1, .int x2), (0, .ref x0), (2, .int x2), (3, .int x3), (4, .int x4)] (show decode (tC tMd_readPacket) 202 = .ok (.istore_n 1, 1) by decide +kernel) rfl (by decide) rfl ?_
      refine v_goto (pc := 203) 50 (show decode (tC tMd_readPacket) 203 = .ok (.goto (-153), 3) by decide +kernel) (by decide) ?_
      refine v_sub [(0, .ref x0), (1, .int x2)] [1, 0] rfl ?_
      exact hk50 x0 x2 S h
    · replace h := ite_f c h
      refine v_iload_n (pc := 139) (show decode (tC tMd_readPacket) 139 = .ok (.iload_n 3, 1) by decide +kernel) 3 rfl rfl ?_
      refine v_if_ne (pc := 140) 201 (show decode (tC tMd_readPacket) 140 = .ok (.ifCond .ne 61, 3) by decide +kernel) (by decide) (fun c => ?_) (fun c => ?_)
      · replace h := ite_f c h
        refine v_iload_n (pc := 201) (show decode (tC tMd_readPacket) 201 = .ok (.iload_n 2, 1) by decide +kernel) 2 rfl rfl ?_
        refine v_istore_n (pc := 202) [(1, .int x2), (0, .ref x0), (2, .int x2), (3, .int x3), (4, .int x4)] (show decode (tC tMd_readPacket) 202 = .ok (.istore_n 1, 1) by decide +kernel) rfl (by decide) rfl ?_
        refine v_goto (pc := 203) 50 (show decode (tC tMd_readPacket) 203 = .ok (.goto (-153), 3) by decide +kernel) (by decide) ?_
        refine v_sub [(0, .ref x0), (1, .int x2)] [1, 0] rfl ?_
        exact hk50 x0 x2 S h
      · replace h := ite_t c h
        refine v_aload_n (pc := 143) (show decode (tC tMd_readPacket) 143 = .ok (.aload_n 0, 1) by decide +kernel) 0 rfl rfl ?_
        obtain ⟨v5, e6, h⟩ := ob h
        refine v_getX (pc := 144) oF_Md_174 e6 (show decode (tC tMd_readPacket) 144 = .ok (.getfield 174, 3) by decide +kernel) ?_
        refine v_aload_n (pc := 147) (show decode (tC tMd_readPacket) 147 = .ok (.aload_n 0, 1) by decide +kernel) 0 rfl rfl ?_
        obtain ⟨v7, e8, h⟩ := ob h
        refine v_getX (pc := 148) oF_Md_16 e8 (show decode (tC tMd_readPacket) 148 = .ok (.getfield 16, 3) by decide +kernel) ?_
        refine v_iload_n (pc := 151) (show decode (tC tMd_readPacket) 151 = .ok (.iload_n 1, 1) by decide +kernel) 1 rfl rfl ?_
        obtain ⟨v9, e10, h⟩ := ob h
        refine v_iald (pc := 152) e10 (show decode (tC tMd_readPacket) 152 = .ok (.iaload, 1) by decide +kernel) ?_
        obtain ⟨v11, e12, h⟩ := ob h
        refine v_iald (pc := 153) e12 (show decode (tC tMd_readPacket) 153 = .ok (.iaload, 1) by decide +kernel) ?_
        refine v_aload_n (pc := 154) (show decode (tC tMd_readPacket) 154 = .ok (.aload_n 0, 1) by decide +kernel) 0 rfl rfl ?_
        obtain ⟨v13, e14, h⟩ := ob h
        refine v_getX (pc := 155) oF_Md_22 e14 (show decode (tC tMd_readPacket) 155 = .ok (.getfield 22, 3) by decide +kernel) ?_
        refine v_iload (pc := 158) (show decode (tC tMd_readPacket) 158 = .ok (.iload 4, 2) by decide +kernel) 4 rfl ?_
        obtain ⟨v15, e16, h⟩ := ob h
        refine v_iald (pc := 160) e16 (show decode (tC tMd_readPacket) 160 = .ok (.iaload, 1) by decide +kernel) ?_
        refine v_ixor (pc := 161) (show decode (tC tMd_readPacket) 161 = .ok (.ixor, 1) by decide +kernel) ?_
        refine v_aload_n (pc := 162) (show decode (tC tMd_readPacket) 162 = .ok (.aload_n 0, 1) by decide +kernel) 0 rfl rfl ?_
        obtain ⟨v17, e18, h⟩ := ob h
        refine v_getX (pc := 163) oF_Md_25 e18 (show decode (tC tMd_readPacket) 163 = .ok (.getfield 25, 3) by decide +kernel) ?_
        refine v_iload (pc := 166) (show decode (tC tMd_readPacket) 166 = .ok (.iload 4, 2) by decide +kernel) 4 rfl ?_
        obtain ⟨v19, e20, h⟩ := ob h
        refine v_iald (pc := 168) e20 (show decode (tC tMd_readPacket) 168 = .ok (.iaload, 1) by decide +kernel) ?_
        refine v_iand (pc := 169) (show decode (tC tMd_readPacket) 169 = .ok (.iand, 1) by decide +kernel) ?_
        refine v_if_ne (pc := 170) 177 (show decode (tC tMd_readPacket) 170 = .ok (.ifCond .ne 7, 3) by decide +kernel) (by decide) (fun c => ?_) (fun c => ?_)
        · replace h := ite_f c h
          refine v_iconst (pc := 177) (v := 0) (show decode (tC tMd_readPacket) 177 = .ok (.iconst 0, 1) by decide +kernel) (by decide) ?_
          refine v_sub [(0, .ref x0), (1, .int x1), (2, .int x2), (4, .int x4)] [0, 1, 2, 4] rfl ?_
          exact wMd_readPacket_178 hR hl (fun y0 y1 y2 y3 y4 T h => ih y0 y1 y2 y3 y4 T h) x0 x1 x2 x4 0 S h
        · replace h := ite_t c h
          refine v_iconst (pc := 173) (v := 1) (show decode (tC tMd_readPacket) 173 = .ok (.iconst 1, 1) by decide +kernel) (by decide) ?_
          refine v_goto (pc := 174) 178 (show decode (tC tMd_readPacket) 174 = .ok (.goto 4, 3) by decide +kernel) (by decide) ?_
          refine v_sub [(0, .ref x0), (1, .int x1), (2, .int x2), (4, .int x4)] [0, 1, 2, 4] rfl ?_
          exact wMd_readPacket_178 hR hl (fun y0 y1 y2 y3 y4 T h => ih y0 y1 y2 y3 y4 T h) x0 x1 x2 x4 1 S h
def fMd_readPacket_97 (k50 : Nat → Int32 → Sx → Option (Int32 × Sx)) (x0 : Nat) (x1 : Int32) (S : Sx) : Option (Int32 × Sx) :=
    (gX S 12 15 x0).bind fun v1 =>
    (aI S v1 x1).bind fun v3 =>
    (gX S 12 10 x0).bind fun v5 =>
    (aI S v5 x1).bind fun v7 =>
    if (0 : Int32) ≤ v7 then
    (fMd_readPacket_124 k50 fuel x0 x1 v3 0 (4 * x1) S)
    else
    (fMd_readPacket_124 k50 fuel x0 x1 v3 1 (4 * x1) S)
set_option maxRecDepth 100000 in
set_option maxHeartbeats 4000000 in
theorem wMd_readPacket_97 {Γ : vG} (hR : gR Γ = rMd_readPacket) (hl : (gl Γ).flags = pinnedFlags ++ [noTraceFlag]) {X : Int32 × Sx} {k50 : Nat → Int32 → Sx → Option (Int32 × Sx)} (hk50 : ∀ (x0 : Nat) (x1 : Int32) (S : Sx), k50 x0 x1 S = some X → vV Γ tMd_readPacket (mQ Γ 0 0 0 (some (.int X.1)) X.2) S 0 0 50 [(0, .ref x0), (1, .int x1)] []) : ∀ (x0 : Nat) (x1 : Int32) (S : Sx), fMd_readPacket_97 k50 x0 x1 S = some X → vV Γ tMd_readPacket (mQ Γ 0 0 0 (some (.int X.1)) X.2) S 0 0 97 [(0, .ref x0), (1, .int x1)] [] := by
  intro x0 x1 S h
  unfold fMd_readPacket_97 at h
  refine v_aload_n (pc := 97) (show decode (tC tMd_readPacket) 97 = .ok (.aload_n 0, 1) by decide +kernel) 0 rfl rfl ?_
  obtain ⟨v1, e2, h⟩ := ob h
  refine v_getX (pc := 98) oF_Md_31 e2 (show decode (tC tMd_readPacket) 98 = .ok (.getfield 31, 3) by decide +kernel) ?_
  refine v_iload_n (pc := 101) (show decode (tC tMd_readPacket) 101 = .ok (.iload_n 1, 1) by decide +kernel) 1 rfl rfl ?_
  obtain ⟨v3, e4, h⟩ := ob h
  refine v_iald (pc := 102) e4 (show decode (tC tMd_readPacket) 102 = .ok (.iaload, 1) by decide +kernel) ?_
  refine v_istore_n (pc := 103) [(2, .int v3), (0, .ref x0), (1, .int x1)] (show decode (tC tMd_readPacket) 103 = .ok (.istore_n 2, 1) by decide +kernel) rfl (by decide) rfl ?_
  refine v_aload_n (pc := 104) (show decode (tC tMd_readPacket) 104 = .ok (.aload_n 0, 1) by decide +kernel) 1 rfl rfl ?_
  obtain ⟨v5, e6, h⟩ := ob h
  refine v_getX (pc := 105) oF_Md_16 e6 (show decode (tC tMd_readPacket) 105 = .ok (.getfield 16, 3) by decide +kernel) ?_
  refine v_iload_n (pc := 108) (show decode (tC tMd_readPacket) 108 = .ok (.iload_n 1, 1) by decide +kernel) 2 rfl rfl ?_
  obtain ⟨v7, e8, h⟩ := ob h
  refine v_iald (pc := 109) e8 (show decode (tC tMd_readPacket) 109 = .ok (.iaload, 1) by decide +kernel) ?_
  refine v_if_ge (pc := 110) 117 (show decode (tC tMd_readPacket) 110 = .ok (.ifCond .ge 7, 3) by decide +kernel) (by decide) (fun c => ?_) (fun c => ?_)
  · replace h := ite_t c h
    refine v_iconst (pc := 117) (v := 0) (show decode (tC tMd_readPacket) 117 = .ok (.iconst 0, 1) by decide +kernel) (by decide) ?_
    refine v_istore_n (pc := 118) [(3, .int 0), (2, .int v3), (0, .ref x0), (1, .int x1)] (show decode (tC tMd_readPacket) 118 = .ok (.istore_n 3, 1) by decide +kernel) rfl (by decide) rfl ?_
    refine v_iconst (pc := 119) (v := 4) (show decode (tC tMd_readPacket) 119 = .ok (.iconst 4, 1) by decide +kernel) (by decide) ?_
    refine v_iload_n (pc := 120) (show decode (tC tMd_readPacket) 120 = .ok (.iload_n 1, 1) by decide +kernel) 3 rfl rfl ?_
    refine v_imul (pc := 121) (show decode (tC tMd_readPacket) 121 = .ok (.imul, 1) by decide +kernel) ?_
    refine v_istore (pc := 122) [(4, .int (4 * x1)), (3, .int 0), (2, .int v3), (0, .ref x0), (1, .int x1)] (show decode (tC tMd_readPacket) 122 = .ok (.istore 4, 2) by decide +kernel) (by decide) rfl ?_
    refine v_sub [(0, .ref x0), (1, .int x1), (2, .int v3), (3, .int 0), (4, .int (4 * x1))] [3, 4, 2, 1, 0] rfl ?_
    exact wMd_readPacket_124 hR hl hk50 fuel x0 x1 v3 0 (4 * x1) S h
  · replace h := ite_f c h
    refine v_iconst (pc := 113) (v := 1) (show decode (tC tMd_readPacket) 113 = .ok (.iconst 1, 1) by decide +kernel) (by decide) ?_
    refine v_goto (pc := 114) 118 (show decode (tC tMd_readPacket) 114 = .ok (.goto 4, 3) by decide +kernel) (by decide) ?_
    refine v_istore_n (pc := 118) [(3, .int 1), (2, .int v3), (0, .ref x0), (1, .int x1)] (show decode (tC tMd_readPacket) 118 = .ok (.istore_n 3, 1) by decide +kernel) rfl (by decide) rfl ?_
    refine v_iconst (pc := 119) (v := 4) (show decode (tC tMd_readPacket) 119 = .ok (.iconst 4, 1) by decide +kernel) (by decide) ?_
    refine v_iload_n (pc := 120) (show decode (tC tMd_readPacket) 120 = .ok (.iload_n 1, 1) by decide +kernel) 3 rfl rfl ?_
    refine v_imul (pc := 121) (show decode (tC tMd_readPacket) 121 = .ok (.imul, 1) by decide +kernel) ?_
    refine v_istore (pc := 122) [(4, .int (4 * x1)), (3, .int 1), (2, .int v3), (0, .ref x0), (1, .int x1)] (show decode (tC tMd_readPacket) 122 = .ok (.istore 4, 2) by decide +kernel) (by decide) rfl ?_
    refine v_sub [(0, .ref x0), (1, .int x1), (2, .int v3), (3, .int 1), (4, .int (4 * x1))] [3, 4, 2, 1, 0] rfl ?_
    exact wMd_readPacket_124 hR hl hk50 fuel x0 x1 v3 1 (4 * x1) S h
def fMd_readPacket_58 (k50 : Nat → Int32 → Sx → Option (Int32 × Sx)) : Nat → Nat → Int32 → Int32 → Sx → Option (Int32 × Sx)
  | 0, _, _, _, _ => none
  | n + 1, x0, x1, x2, S =>
    if ((4 * x1) + 4) ≤ x2 then
    (fMd_readPacket_97 k50 x0 x1 S)
    else
    ((gX S 12 9 x0).bind fun v1 =>
    (aI S v1 x2).bind fun v3 =>
    if v3 < 0 then
    (fMd_readPacket_97 k50 x0 x1 S)
    else
    ((gX S 12 9 x0).bind fun v5 =>
    (aI S v5 x2).bind fun v7 =>
    (ckd S x0 12).bind fun _ =>
    bd2 (fMd_readField x0 v7 S) fun r11 S12 =>
    if r11 = 0 then
    (some (0, S12))
    else
    (fMd_readPacket_58 k50 n x0 x1 (x2 + 1) S12)))
set_option maxRecDepth 100000 in
set_option maxHeartbeats 4000000 in
theorem wMd_readPacket_58 {Γ : vG} (hR : gR Γ = rMd_readPacket) (hl : (gl Γ).flags = pinnedFlags ++ [noTraceFlag]) {X : Int32 × Sx} {k50 : Nat → Int32 → Sx → Option (Int32 × Sx)} (hk50 : ∀ (x0 : Nat) (x1 : Int32) (S : Sx), k50 x0 x1 S = some X → vV Γ tMd_readPacket (mQ Γ 0 0 0 (some (.int X.1)) X.2) S 0 0 50 [(0, .ref x0), (1, .int x1)] []) : ∀ (n : Nat) (x0 : Nat) (x1 : Int32) (x2 : Int32) (S : Sx), fMd_readPacket_58 k50 n x0 x1 x2 S = some X → vV Γ tMd_readPacket (mQ Γ 0 0 0 (some (.int X.1)) X.2) S 0 0 58 [(0, .ref x0), (1, .int x1), (2, .int x2)] [] := by
  intro n
  induction n with
  | zero => intro x0 x1 x2 S h; rw [fMd_readPacket_58] at h; cases h
  | succ n ih =>
    intro x0 x1 x2 S h
    rw [fMd_readPacket_58] at h
    refine v_iload_n (pc := 58) (show decode (tC tMd_readPacket) 58 = .ok (.iload_n 2, 1) by decide +kernel) 2 rfl rfl ?_
    refine v_iconst (pc := 59) (v := 4) (show decode (tC tMd_readPacket) 59 = .ok (.iconst 4, 1) by decide +kernel) (by decide) ?_
    refine v_iload_n (pc := 60) (show decode (tC tMd_readPacket) 60 = .ok (.iload_n 1, 1) by decide +kernel) 1 rfl rfl ?_
    refine v_imul (pc := 61) (show decode (tC tMd_readPacket) 61 = .ok (.imul, 1) by decide +kernel) ?_
    refine v_iconst (pc := 62) (v := 4) (show decode (tC tMd_readPacket) 62 = .ok (.iconst 4, 1) by decide +kernel) (by decide) ?_
    refine v_iadd (pc := 63) (show decode (tC tMd_readPacket) 63 = .ok (.iadd, 1) by decide +kernel) ?_
    refine v_icmp_ge (pc := 64) 97 (show decode (tC tMd_readPacket) 64 = .ok (.if_icmp .ge 33, 3) by decide +kernel) (by decide) (fun c => ?_) (fun c => ?_)
    · replace h := ite_t c h
      refine v_sub [(0, .ref x0), (1, .int x1)] [0, 1] rfl ?_
      exact wMd_readPacket_97 hR hl hk50 x0 x1 S h
    · replace h := ite_f c h
      refine v_aload_n (pc := 67) (show decode (tC tMd_readPacket) 67 = .ok (.aload_n 0, 1) by decide +kernel) 0 rfl rfl ?_
      obtain ⟨v1, e2, h⟩ := ob h
      refine v_getX (pc := 68) oF_Md_13 e2 (show decode (tC tMd_readPacket) 68 = .ok (.getfield 13, 3) by decide +kernel) ?_
      refine v_iload_n (pc := 71) (show decode (tC tMd_readPacket) 71 = .ok (.iload_n 2, 1) by decide +kernel) 2 rfl rfl ?_
      obtain ⟨v3, e4, h⟩ := ob h
      refine v_iald (pc := 72) e4 (show decode (tC tMd_readPacket) 72 = .ok (.iaload, 1) by decide +kernel) ?_
      refine v_if_lt (pc := 73) 97 (show decode (tC tMd_readPacket) 73 = .ok (.ifCond .lt 24, 3) by decide +kernel) (by decide) (fun c => ?_) (fun c => ?_)
      · replace h := ite_t c h
        refine v_sub [(0, .ref x0), (1, .int x1)] [0, 1] rfl ?_
        exact wMd_readPacket_97 hR hl hk50 x0 x1 S h
      · replace h := ite_f c h
        refine v_aload_n (pc := 76) (show decode (tC tMd_readPacket) 76 = .ok (.aload_n 0, 1) by decide +kernel) 0 rfl rfl ?_
        refine v_aload_n (pc := 77) (show decode (tC tMd_readPacket) 77 = .ok (.aload_n 0, 1) by decide +kernel) 0 rfl rfl ?_
        obtain ⟨v5, e6, h⟩ := ob h
        refine v_getX (pc := 78) oF_Md_13 e6 (show decode (tC tMd_readPacket) 78 = .ok (.getfield 13, 3) by decide +kernel) ?_
        refine v_iload_n (pc := 81) (show decode (tC tMd_readPacket) 81 = .ok (.iload_n 2, 1) by decide +kernel) 2 rfl rfl ?_
        obtain ⟨v7, e8, h⟩ := ob h
        refine v_iald (pc := 82) e8 (show decode (tC tMd_readPacket) 82 = .ok (.iaload, 1) by decide +kernel) ?_
        obtain ⟨_, e10, h⟩ := ob h
        obtain ⟨r11, S12, e9, h⟩ := ob2 h
        refine v_call (pc := 83) (v := (some (.int r11))) (y := yMd_readField) (θ' := tMd_readField) (rm := rMd_readField) (av := [.ref x0, .int v7]) (st := []) (cMd_readField (l := gl Γ) hl e9) kMd_readField iMd_readField (iv_virt (y := yMd_readField) (θ' := tMd_readField) (kd := 12) (As := [.int v7]) rfl (ckd_of e10) kMd_readField (gT_in 1586 (by decide +kernel) rfl) nMd_readField lMd_readField mMd_readField rfl (show decode (tC tMd_readPacket) 83 = .ok (.invokevirtual 310, 3) by decide +kernel)) ⟨by rw [hR]; decide, by rw [hR]; decide, by rw [hR]; decide, by rw [hR]; decide⟩ (Nat.le_of_ble_eq_true rfl) ?_
        refine v_if_ne (pc := 86) 91 (show decode (tC tMd_readPacket) 86 = .ok (.ifCond .ne 5, 3) by decide +kernel) (by decide) (fun c => ?_) (fun c => ?_)
        · replace h := ite_f c h
          refine v_iinc (pc := 91) (j := 2) [(2, .int (x2 + 1)), (0, .ref x0), (1, .int x1)] (show decode (tC tMd_readPacket) 91 = .ok (.iinc 2 1, 3) by decide +kernel) rfl rfl (by decide) rfl ?_
          refine v_goto (pc := 94) 58 (show decode (tC tMd_readPacket) 94 = .ok (.goto (-36), 3) by decide +kernel) (by decide) ?_
          refine v_sub [(0, .ref x0), (1, .int x1), (2, .int (x2 + 1))] [1, 2, 0] rfl ?_
          exact ih x0 x1 (x2 + 1) S12 h
        · replace h := ite_t c h
          refine v_iconst (pc := 89) (v := 0) (show decode (tC tMd_readPacket) 89 = .ok (.iconst 0, 1) by decide +kernel) (by decide) ?_
          obtain rfl := Option.some.inj h
          refine v_wide (ce2 := 0) (sl2 := 0) (by decide) (by decide) ?_
          exact v_zret (pc := 90) rfl (Or.inl rfl) (show decode (tC tMd_readPacket) 90 = .ok (.ireturn, 1) by decide +kernel)
def fMd_readPacket_50  : Nat → Nat → Int32 → Sx → Option (Int32 × Sx)
  | 0, _, _, _ => none
  | n + 1, x0, x1, S =>
    if x1 < 0 then
    (if x1 = (-1) then
    (some (1, S))
    else
    (some (0, S)))
    else
    (fMd_readPacket_58 (fun y0 y1 T => fMd_readPacket_50 n y0 y1 T) fuel x0 x1 (4 * x1) S)
set_option maxRecDepth 100000 in
set_option maxHeartbeats 4000000 in
theorem wMd_readPacket_50 {Γ : vG} (hR : gR Γ = rMd_readPacket) (hl : (gl Γ).flags = pinnedFlags ++ [noTraceFlag]) {X : Int32 × Sx}  : ∀ (n : Nat) (x0 : Nat) (x1 : Int32) (S : Sx), fMd_readPacket_50  n x0 x1 S = some X → vV Γ tMd_readPacket (mQ Γ 0 0 0 (some (.int X.1)) X.2) S 0 0 50 [(0, .ref x0), (1, .int x1)] [] := by
  intro n
  induction n with
  | zero => intro x0 x1 S h; rw [fMd_readPacket_50] at h; cases h
  | succ n ih =>
    intro x0 x1 S h
    rw [fMd_readPacket_50] at h
    refine v_iload_n (pc := 50) (show decode (tC tMd_readPacket) 50 = .ok (.iload_n 1, 1) by decide +kernel) 1 rfl rfl ?_
    refine v_if_lt (pc := 51) 206 (show decode (tC tMd_readPacket) 51 = .ok (.ifCond .lt 155, 3) by decide +kernel) (by decide) (fun c => ?_) (fun c => ?_)
    · replace h := ite_t c h
      refine v_iload_n (pc := 206) (show decode (tC tMd_readPacket) 206 = .ok (.iload_n 1, 1) by decide +kernel) 1 rfl rfl ?_
      refine v_iconst (pc := 207) (v := (-1)) (show decode (tC tMd_readPacket) 207 = .ok (.iconst (-1), 1) by decide +kernel) (by decide) ?_
      refine v_icmp_ne (pc := 208) 215 (show decode (tC tMd_readPacket) 208 = .ok (.if_icmp .ne 7, 3) by decide +kernel) (by decide) (fun c => ?_) (fun c => ?_)
      · replace h := ite_f c h
        refine v_iconst (pc := 215) (v := 0) (show decode (tC tMd_readPacket) 215 = .ok (.iconst 0, 1) by decide +kernel) (by decide) ?_
        obtain rfl := Option.some.inj h
        refine v_wide (ce2 := 0) (sl2 := 0) (by decide) (by decide) ?_
        exact v_zret (pc := 216) rfl (Or.inl rfl) (show decode (tC tMd_readPacket) 216 = .ok (.ireturn, 1) by decide +kernel)
      · replace h := ite_t c h
        refine v_iconst (pc := 211) (v := 1) (show decode (tC tMd_readPacket) 211 = .ok (.iconst 1, 1) by decide +kernel) (by decide) ?_
        refine v_goto (pc := 212) 216 (show decode (tC tMd_readPacket) 212 = .ok (.goto 4, 3) by decide +kernel) (by decide) ?_
        obtain rfl := Option.some.inj h
        refine v_wide (ce2 := 0) (sl2 := 0) (by decide) (by decide) ?_
        exact v_zret (pc := 216) rfl (Or.inr rfl) (show decode (tC tMd_readPacket) 216 = .ok (.ireturn, 1) by decide +kernel)
    · replace h := ite_f c h
      refine v_iconst (pc := 54) (v := 4) (show decode (tC tMd_readPacket) 54 = .ok (.iconst 4, 1) by decide +kernel) (by decide) ?_
      refine v_iload_n (pc := 55) (show decode (tC tMd_readPacket) 55 = .ok (.iload_n 1, 1) by decide +kernel) 1 rfl rfl ?_
      refine v_imul (pc := 56) (show decode (tC tMd_readPacket) 56 = .ok (.imul, 1) by decide +kernel) ?_
      refine v_istore_n (pc := 57) [(2, .int (4 * x1)), (0, .ref x0), (1, .int x1)] (show decode (tC tMd_readPacket) 57 = .ok (.istore_n 2, 1) by decide +kernel) rfl (by decide) rfl ?_
      refine v_sub [(0, .ref x0), (1, .int x1), (2, .int (4 * x1))] [1, 2, 0] rfl ?_
      exact wMd_readPacket_58 hR hl (fun y0 y1 T h => ih y0 y1 T h) fuel x0 x1 (4 * x1) S h
def fMd_readPacket_22  : Nat → Nat → Int32 → Sx → Option (Int32 × Sx)
  | 0, _, _, _ => none
  | n + 1, x0, x1, S =>
    if (16 : Int32) ≤ x1 then
    (fMd_readPacket_50  fuel x0 0 S)
    else
    ((gX S 12 77 x0).bind fun v1 =>
    (qI S v1 x1 0).bind fun S3 =>
    (gX S3 12 79 x0).bind fun v5 =>
    (qZ S3 v5 x1 0).bind fun S7 =>
    fMd_readPacket_22 n x0 (x1 + 1) S7)
set_option maxRecDepth 100000 in
set_option maxHeartbeats 4000000 in
theorem wMd_readPacket_22 {Γ : vG} (hR : gR Γ = rMd_readPacket) (hl : (gl Γ).flags = pinnedFlags ++ [noTraceFlag]) {X : Int32 × Sx}  : ∀ (n : Nat) (x0 : Nat) (x1 : Int32) (S : Sx), fMd_readPacket_22  n x0 x1 S = some X → vV Γ tMd_readPacket (mQ Γ 0 0 0 (some (.int X.1)) X.2) S 0 0 22 [(0, .ref x0), (1, .int x1)] [] := by
  intro n
  induction n with
  | zero => intro x0 x1 S h; rw [fMd_readPacket_22] at h; cases h
  | succ n ih =>
    intro x0 x1 S h
    rw [fMd_readPacket_22] at h
    refine v_iload_n (pc := 22) (show decode (tC tMd_readPacket) 22 = .ok (.iload_n 1, 1) by decide +kernel) 1 rfl rfl ?_
    refine v_bipush (pc := 23) (v := 16) (show decode (tC tMd_readPacket) 23 = .ok (.bipush 16, 2) by decide +kernel) (by decide) ?_
    refine v_icmp_ge (pc := 25) 48 (show decode (tC tMd_readPacket) 25 = .ok (.if_icmp .ge 23, 3) by decide +kernel) (by decide) (fun c => ?_) (fun c => ?_)
    · replace h := ite_t c h
      refine v_iconst (pc := 48) (v := 0) (show decode (tC tMd_readPacket) 48 = .ok (.iconst 0, 1) by decide +kernel) (by decide) ?_
      refine v_istore_n (pc := 49) [(1, .int 0), (0, .ref x0)] (show decode (tC tMd_readPacket) 49 = .ok (.istore_n 1, 1) by decide +kernel) rfl (by decide) rfl ?_
      refine v_sub [(0, .ref x0), (1, .int 0)] [1, 0] rfl ?_
      exact wMd_readPacket_50 hR hl  fuel x0 0 S h
    · replace h := ite_f c h
      refine v_aload_n (pc := 28) (show decode (tC tMd_readPacket) 28 = .ok (.aload_n 0, 1) by decide +kernel) 0 rfl rfl ?_
      obtain ⟨v1, e2, h⟩ := ob h
      refine v_getX (pc := 29) oF_Md_174 e2 (show decode (tC tMd_readPacket) 29 = .ok (.getfield 174, 3) by decide +kernel) ?_
      refine v_iload_n (pc := 32) (show decode (tC tMd_readPacket) 32 = .ok (.iload_n 1, 1) by decide +kernel) 1 rfl rfl ?_
      refine v_iconst (pc := 33) (v := 0) (show decode (tC tMd_readPacket) 33 = .ok (.iconst 0, 1) by decide +kernel) (by decide) ?_
      obtain ⟨S3, e4, h⟩ := ob h
      refine v_iast (pc := 34) e4 (show decode (tC tMd_readPacket) 34 = .ok (.iastore, 1) by decide +kernel) ?_
      refine v_aload_n (pc := 35) (show decode (tC tMd_readPacket) 35 = .ok (.aload_n 0, 1) by decide +kernel) 0 rfl rfl ?_
      obtain ⟨v5, e6, h⟩ := ob h
      refine v_getX (pc := 36) oF_Md_180 e6 (show decode (tC tMd_readPacket) 36 = .ok (.getfield 180, 3) by decide +kernel) ?_
      refine v_iload_n (pc := 39) (show decode (tC tMd_readPacket) 39 = .ok (.iload_n 1, 1) by decide +kernel) 1 rfl rfl ?_
      refine v_iconst (pc := 40) (v := 0) (show decode (tC tMd_readPacket) 40 = .ok (.iconst 0, 1) by decide +kernel) (by decide) ?_
      obtain ⟨S7, e8, h⟩ := ob h
      refine v_zast (pc := 41) e8 (show decode (tC tMd_readPacket) 41 = .ok (.bastore, 1) by decide +kernel) ?_
      refine v_iinc (pc := 42) (j := 1) [(1, .int (x1 + 1)), (0, .ref x0)] (show decode (tC tMd_readPacket) 42 = .ok (.iinc 1 1, 3) by decide +kernel) rfl rfl (by decide) rfl ?_
      refine v_goto (pc := 45) 22 (show decode (tC tMd_readPacket) 45 = .ok (.goto (-23), 3) by decide +kernel) (by decide) ?_
      refine v_sub [(0, .ref x0), (1, .int (x1 + 1))] [1, 0] rfl ?_
      exact ih x0 (x1 + 1) S7 h
def fMd_readPacket (x0 : Nat) (S : Sx) : Option (Int32 × Sx) :=
    (pI S 12 73 x0 0).bind fun S1 =>
    (pI S1 12 74 x0 0).bind fun S3 =>
    (pI S3 12 75 x0 0).bind fun S5 =>
    (pZ S5 12 76 x0 0).bind fun S7 =>
    fMd_readPacket_22  fuel x0 0 S7
set_option maxRecDepth 100000 in
set_option maxHeartbeats 4000000 in
theorem wMd_readPacket {Γ : vG} (hR : gR Γ = rMd_readPacket) (hl : (gl Γ).flags = pinnedFlags ++ [noTraceFlag]) (x0 : Nat) (S : Sx) {X : Int32 × Sx} (h : fMd_readPacket x0 S = some X) : vV Γ tMd_readPacket (mQ Γ 0 0 0 (some (.int X.1)) X.2) S 0 0 0 [(0, .ref x0)] [] := by
  unfold fMd_readPacket at h
  refine v_aload_n (pc := 0) (show decode (tC tMd_readPacket) 0 = .ok (.aload_n 0, 1) by decide +kernel) 0 rfl rfl ?_
  refine v_iconst (pc := 1) (v := 0) (show decode (tC tMd_readPacket) 1 = .ok (.iconst 0, 1) by decide +kernel) (by decide) ?_
  obtain ⟨S1, e2, h⟩ := ob h
  refine v_putI (pc := 2) oF_Md_301 (fin_ok (kd := 12) (k := 73) (by decide +kernel)) e2 (show decode (tC tMd_readPacket) 2 = .ok (.putfield 301, 3) by decide +kernel) ?_
  refine v_aload_n (pc := 5) (show decode (tC tMd_readPacket) 5 = .ok (.aload_n 0, 1) by decide +kernel) 0 rfl rfl ?_
  refine v_iconst (pc := 6) (v := 0) (show decode (tC tMd_readPacket) 6 = .ok (.iconst 0, 1) by decide +kernel) (by decide) ?_
  obtain ⟨S3, e4, h⟩ := ob h
  refine v_putI (pc := 7) oF_Md_298 (fin_ok (kd := 12) (k := 74) (by decide +kernel)) e4 (show decode (tC tMd_readPacket) 7 = .ok (.putfield 298, 3) by decide +kernel) ?_
  refine v_aload_n (pc := 10) (show decode (tC tMd_readPacket) 10 = .ok (.aload_n 0, 1) by decide +kernel) 0 rfl rfl ?_
  refine v_iconst (pc := 11) (v := 0) (show decode (tC tMd_readPacket) 11 = .ok (.iconst 0, 1) by decide +kernel) (by decide) ?_
  obtain ⟨S5, e6, h⟩ := ob h
  refine v_putI (pc := 12) oF_Md_304 (fin_ok (kd := 12) (k := 75) (by decide +kernel)) e6 (show decode (tC tMd_readPacket) 12 = .ok (.putfield 304, 3) by decide +kernel) ?_
  refine v_aload_n (pc := 15) (show decode (tC tMd_readPacket) 15 = .ok (.aload_n 0, 1) by decide +kernel) 0 rfl rfl ?_
  refine v_iconst (pc := 16) (v := 0) (show decode (tC tMd_readPacket) 16 = .ok (.iconst 0, 1) by decide +kernel) (by decide) ?_
  obtain ⟨S7, e8, h⟩ := ob h
  refine v_putZ (pc := 17) oF_Md_307 (fin_ok (kd := 12) (k := 76) (by decide +kernel)) e8 (show decode (tC tMd_readPacket) 17 = .ok (.putfield 307, 3) by decide +kernel) ?_
  refine v_iconst (pc := 20) (v := 0) (show decode (tC tMd_readPacket) 20 = .ok (.iconst 0, 1) by decide +kernel) (by decide) ?_
  refine v_istore_n (pc := 21) [(1, .int 0), (0, .ref x0)] (show decode (tC tMd_readPacket) 21 = .ok (.istore_n 1, 1) by decide +kernel) rfl (by decide) rfl ?_
  refine v_sub [(0, .ref x0), (1, .int 0)] [1, 0] rfl ?_
  exact wMd_readPacket_22 hR hl  fuel x0 0 S7 h
theorem cMd_readPacket {l : Launch} (hl : l.flags = pinnedFlags ++ [noTraceFlag]) {D : va_G} {dA : Nat → ClassId} {B : Nat} {x0 : Nat} {S : Sx} {X : Int32 × Sx} (h : fMd_readPacket x0 S = some X) : Mx l yMd_readPacket tMd_readPacket rMd_readPacket 0 0 D dA B S [.ref x0] 0 (some (.int X.1)) X.2 :=
  mx_of hl (by decide) rfl rfl (Nat.le_of_ble_eq_true rfl) (fun Γ e1 e2 e3 e4 e5 => by subst e1; subst e3; subst e4; subst e5; exact wMd_readPacket e2 hl x0 S h)
