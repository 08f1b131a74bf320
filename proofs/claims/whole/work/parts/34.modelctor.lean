/-! MatchPipeModel.<init>()V -/
def yMd_init : MethodName := ⟨"MatchPipeModel", "<init>", "()V"⟩
def tMd_init : tM := (prog_14_method_1_code, "MatchPipeModel", 1, "<init>", none, [])
def rMd_init : Room := { frames := 1, cells := 56, slots := 13303, locals := 40 }
theorem kMd_init : cOf yMd_init tMd_init ∈ gT := gT_in 1177 (by decide +kernel) rfl
theorem iMd_init : Cond.initialized yMd_init.cls ∈ gT := gT_in 68 (by decide +kernel) rfl
theorem mMd_init : okM yMd_init 0 := ⟨by decide, by decide, by unfold nPar; decide +kernel⟩
theorem nMd_init : Cond.instanceMethod yMd_init ∈ gT := gT_in 1176 (by decide +kernel) rfl
def fMd_init (x0 : Nat) (S : Sx) : Option (Sx) :=
    bd2 (mk S 100 16) fun a1 S2 =>
    (pX S2 12 8 x0 a1).bind fun S4 =>
    bd2 (mk S4 100 32) fun a6 S7 =>
    (pX S7 12 9 x0 a6).bind fun S9 =>
    bd2 (mk S9 100 8) fun a11 S12 =>
    (pX S12 12 10 x0 a11).bind fun S14 =>
    bd2 (mk S14 100 8) fun a16 S17 =>
    (pX S17 12 11 x0 a16).bind fun S19 =>
    bd2 (mk S19 100 32) fun a21 S22 =>
    (pX S22 12 12 x0 a21).bind fun S24 =>
    bd2 (mk S24 100 32) fun a26 S27 =>
    (pX S27 12 13 x0 a26).bind fun S29 =>
    bd2 (mk S29 100 32) fun a31 S32 =>
    (pX S32 12 14 x0 a31).bind fun S34 =>
    bd2 (mk S34 100 8) fun a36 S37 =>
    (pX S37 12 15 x0 a36).bind fun S39 =>
    bd2 (mk S39 100 16) fun a41 S42 =>
    (pX S42 12 16 x0 a41).bind fun S44 =>
    bd2 (mk S44 100 64) fun a46 S47 =>
    (pX S47 12 17 x0 a46).bind fun S49 =>
    bd2 (mk S49 100 64) fun a51 S52 =>
    (pX S52 12 18 x0 a51).bind fun S54 =>
    bd2 (mk S54 100 64) fun a56 S57 =>
    (pX S57 12 19 x0 a56).bind fun S59 =>
    bd2 (mk S59 100 64) fun a61 S62 =>
    (pX S62 12 20 x0 a61).bind fun S64 =>
    bd2 (mk S64 100 8) fun a66 S67 =>
    (pX S67 12 21 x0 a66).bind fun S69 =>
    bd2 (mk S69 100 8) fun a71 S72 =>
    (pX S72 12 22 x0 a71).bind fun S74 =>
    bd2 (mk S74 100 8) fun a76 S77 =>
    (pX S77 12 23 x0 a76).bind fun S79 =>
    bd2 (mk S79 100 8) fun a81 S82 =>
    (pX S82 12 24 x0 a81).bind fun S84 =>
    bd2 (mk S84 100 8) fun a86 S87 =>
    (pX S87 12 25 x0 a86).bind fun S89 =>
    bd2 (mk S89 100 8) fun a91 S92 =>
    (pX S92 12 26 x0 a91).bind fun S94 =>
    bd2 (mk S94 100 16) fun a96 S97 =>
    (pX S97 12 27 x0 a96).bind fun S99 =>
    bd2 (mk S99 100 16) fun a101 S102 =>
    (pX S102 12 28 x0 a101).bind fun S104 =>
    bd2 (mk S104 100 16) fun a106 S107 =>
    (pX S107 12 29 x0 a106).bind fun S109 =>
    bd2 (mk S109 100 16) fun a111 S112 =>
    (pX S112 12 30 x0 a111).bind fun S114 =>
    bd2 (mk S114 100 16) fun a116 S117 =>
    (pX S117 12 31 x0 a116).bind fun S119 =>
    bd2 (mk S119 100 16) fun a121 S122 =>
    (pX S122 12 32 x0 a121).bind fun S124 =>
    (pI S124 12 34 x0 (-1)).bind fun S126 =>
    bd2 (mk S126 100 8) fun a128 S129 =>
    (pX S129 12 35 x0 a128).bind fun S131 =>
    bd2 (mk S131 100 160) fun a133 S134 =>
    (pX S134 12 36 x0 a133).bind fun S136 =>
    bd2 (mk S136 100 160) fun a138 S139 =>
    (pX S139 12 37 x0 a138).bind fun S141 =>
    bd2 (mk S141 100 160) fun a143 S144 =>
    (pX S144 12 38 x0 a143).bind fun S146 =>
    bd2 (mk S146 100 160) fun a148 S149 =>
    (pX S149 12 39 x0 a148).bind fun S151 =>
    bd2 (mk S151 100 160) fun a153 S154 =>
    (pX S154 12 40 x0 a153).bind fun S156 =>
    bd2 (mk S156 100 160) fun a158 S159 =>
    (pX S159 12 41 x0 a158).bind fun S161 =>
    bd2 (mk S161 100 160) fun a163 S164 =>
    (pX S164 12 42 x0 a163).bind fun S166 =>
    bd2 (mk S166 100 160) fun a168 S169 =>
    (pX S169 12 43 x0 a168).bind fun S171 =>
    bd2 (mk S171 100 64) fun a173 S174 =>
    (pX S174 12 44 x0 a173).bind fun S176 =>
    bd2 (mk S176 100 20) fun a178 S179 =>
    (pX S179 12 45 x0 a178).bind fun S181 =>
    bd2 (mk S181 100 60) fun a183 S184 =>
    (pX S184 12 46 x0 a183).bind fun S186 =>
    bd2 (mk S186 100 41) fun a188 S189 =>
    (pX S189 12 57 x0 a188).bind fun S191 =>
    bd2 (mk S191 100 41) fun a193 S194 =>
    (pX S194 12 58 x0 a193).bind fun S196 =>
    bd2 (mk S196 100 2460) fun a198 S199 =>
    (pX S199 12 59 x0 a198).bind fun S201 =>
    bd2 (mk S201 100 41) fun a203 S204 =>
    (pX S204 12 60 x0 a203).bind fun S206 =>
    bd2 (mk S206 100 164) fun a208 S209 =>
    (pX S209 12 61 x0 a208).bind fun S211 =>
    bd2 (mk S211 100 41) fun a213 S214 =>
    (pX S214 12 62 x0 a213).bind fun S216 =>
    bd2 (mk S216 100 41) fun a218 S219 =>
    (pX S219 12 63 x0 a218).bind fun S221 =>
    bd2 (mk S221 100 41) fun a223 S224 =>
    (pX S224 12 64 x0 a223).bind fun S226 =>
    bd2 (mk S226 100 41) fun a228 S229 =>
    (pX S229 12 65 x0 a228).bind fun S231 =>
    bd2 (mk S231 100 128) fun a233 S234 =>
    (pX S234 12 66 x0 a233).bind fun S236 =>
    bd2 (mk S236 100 128) fun a238 S239 =>
    (pX S239 12 67 x0 a238).bind fun S241 =>
    bd2 (mk S241 100 128) fun a243 S244 =>
    (pX S244 12 68 x0 a243).bind fun S246 =>
    bd2 (mk S246 100 128) fun a248 S249 =>
    (pX S249 12 69 x0 a248).bind fun S251 =>
    bd2 (mk S251 100 7680) fun a253 S254 =>
    (pX S254 12 70 x0 a253).bind fun S256 =>
    bd2 (mk S256 100 128) fun a258 S259 =>
    (pX S259 12 71 x0 a258).bind fun S261 =>
    bd2 (mk S261 101 8) fun a263 S264 =>
    (pX S264 12 72 x0 a263).bind fun S266 =>
    bd2 (mk S266 100 16) fun a268 S269 =>
    (pX S269 12 77 x0 a268).bind fun S271 =>
    bd2 (mk S271 100 16) fun a273 S274 =>
    (pX S274 12 78 x0 a273).bind fun S276 =>
    bd2 (mk S276 101 16) fun a278 S279 =>
    (pX S279 12 79 x0 a278).bind fun S281 =>
    some S281
set_option maxRecDepth 100000 in
set_option maxHeartbeats 4000000 in
theorem wMd_init {Γ : vG} (hR : gR Γ = rMd_init) (hl : (gl Γ).flags = pinnedFlags ++ [noTraceFlag]) (x0 : Nat) (S : Sx) {X : Sx} (h : fMd_init x0 S = some X) : vV Γ tMd_init (mQ Γ 56 13303 0 none X) S 0 0 0 [(0, .ref x0)] [] := by
  unfold fMd_init at h
  refine v_aload_n (pc := 0) (show decode (tC tMd_init) 0 = .ok (.aload_n 0, 1) by decide +kernel) 0 rfl rfl ?_
  refine v_obj (pc := 1) (gT_in 1178 (by decide +kernel) rfl) wObj1 wObj2 (by rw [hR]; decide) (by rw [hR]; decide) (show decode (tC tMd_init) 1 = .ok (.invokespecial 1, 3) by decide +kernel) ?_
  refine v_aload_n (pc := 4) (show decode (tC tMd_init) 4 = .ok (.aload_n 0, 1) by decide +kernel) 0 rfl rfl ?_
  refine v_bipush (pc := 5) (v := 16) (show decode (tC tMd_init) 5 = .ok (.bipush 16, 2) by decide +kernel) (by decide) ?_
  obtain ⟨a1, S2, e3, h⟩ := ob2 h
  refine v_mkI (pc := 7) (n := 16) e3 (by decide) (by decide) (by decide) (by rw [hR]; (try simp only [rMd_init]); omega) (by rw [hR]; (try simp only [rMd_init]); omega) (show decode (tC tMd_init) 7 = .ok (.newarray .int, 2) by decide +kernel) ?_
  obtain ⟨S4, e5, h⟩ := ob h
  refine v_putX (pc := 9) oF_Md_7 rfl (own_ok (by decide +kernel)) e5 (show decode (tC tMd_init) 9 = .ok (.putfield 7, 3) by decide +kernel) ?_
  refine v_aload_n (pc := 12) (show decode (tC tMd_init) 12 = .ok (.aload_n 0, 1) by decide +kernel) 0 rfl rfl ?_
  refine v_bipush (pc := 13) (v := 32) (show decode (tC tMd_init) 13 = .ok (.bipush 32, 2) by decide +kernel) (by decide) ?_
  obtain ⟨a6, S7, e8, h⟩ := ob2 h
  refine v_mkI (pc := 15) (n := 32) e8 (by decide) (by decide) (by decide) (by rw [hR]; (try simp only [rMd_init]); omega) (by rw [hR]; (try simp only [rMd_init]); omega) (show decode (tC tMd_init) 15 = .ok (.newarray .int, 2) by decide +kernel) ?_
  obtain ⟨S9, e10, h⟩ := ob h
  refine v_putX (pc := 17) oF_Md_13 rfl (own_ok (by decide +kernel)) e10 (show decode (tC tMd_init) 17 = .ok (.putfield 13, 3) by decide +kernel) ?_
  refine v_aload_n (pc := 20) (show decode (tC tMd_init) 20 = .ok (.aload_n 0, 1) by decide +kernel) 0 rfl rfl ?_
  refine v_bipush (pc := 21) (v := 8) (show decode (tC tMd_init) 21 = .ok (.bipush 8, 2) by decide +kernel) (by decide) ?_
  obtain ⟨a11, S12, e13, h⟩ := ob2 h
  refine v_mkI (pc := 23) (n := 8) e13 (by decide) (by decide) (by decide) (by rw [hR]; (try simp only [rMd_init]); omega) (by rw [hR]; (try simp only [rMd_init]); omega) (show decode (tC tMd_init) 23 = .ok (.newarray .int, 2) by decide +kernel) ?_
  obtain ⟨S14, e15, h⟩ := ob h
  refine v_putX (pc := 25) oF_Md_16 rfl (own_ok (by decide +kernel)) e15 (show decode (tC tMd_init) 25 = .ok (.putfield 16, 3) by decide +kernel) ?_
  refine v_aload_n (pc := 28) (show decode (tC tMd_init) 28 = .ok (.aload_n 0, 1) by decide +kernel) 0 rfl rfl ?_
  refine v_bipush (pc := 29) (v := 8) (show decode (tC tMd_init) 29 = .ok (.bipush 8, 2) by decide +kernel) (by decide) ?_
  obtain ⟨a16, S17, e18, h⟩ := ob2 h
  refine v_mkI (pc := 31) (n := 8) e18 (by decide) (by decide) (by decide) (by rw [hR]; (try simp only [rMd_init]); omega) (by rw [hR]; (try simp only [rMd_init]); omega) (show decode (tC tMd_init) 31 = .ok (.newarray .int, 2) by decide +kernel) ?_
  obtain ⟨S19, e20, h⟩ := ob h
  refine v_putX (pc := 33) oF_Md_19 rfl (own_ok (by decide +kernel)) e20 (show decode (tC tMd_init) 33 = .ok (.putfield 19, 3) by decide +kernel) ?_
  refine v_aload_n (pc := 36) (show decode (tC tMd_init) 36 = .ok (.aload_n 0, 1) by decide +kernel) 0 rfl rfl ?_
  refine v_bipush (pc := 37) (v := 32) (show decode (tC tMd_init) 37 = .ok (.bipush 32, 2) by decide +kernel) (by decide) ?_
  obtain ⟨a21, S22, e23, h⟩ := ob2 h
  refine v_mkI (pc := 39) (n := 32) e23 (by decide) (by decide) (by decide) (by rw [hR]; (try simp only [rMd_init]); omega) (by rw [hR]; (try simp only [rMd_init]); omega) (show decode (tC tMd_init) 39 = .ok (.newarray .int, 2) by decide +kernel) ?_
  obtain ⟨S24, e25, h⟩ := ob h
  refine v_putX (pc := 41) oF_Md_22 rfl (own_ok (by decide +kernel)) e25 (show decode (tC tMd_init) 41 = .ok (.putfield 22, 3) by decide +kernel) ?_
  refine v_aload_n (pc := 44) (show decode (tC tMd_init) 44 = .ok (.aload_n 0, 1) by decide +kernel) 0 rfl rfl ?_
  refine v_bipush (pc := 45) (v := 32) (show decode (tC tMd_init) 45 = .ok (.bipush 32, 2) by decide +kernel) (by decide) ?_
  obtain ⟨a26, S27, e28, h⟩ := ob2 h
  refine v_mkI (pc := 47) (n := 32) e28 (by decide) (by decide) (by decide) (by rw [hR]; (try simp only [rMd_init]); omega) (by rw [hR]; (try simp only [rMd_init]); omega) (show decode (tC tMd_init) 47 = .ok (.newarray .int, 2) by decide +kernel) ?_
  obtain ⟨S29, e30, h⟩ := ob h
  refine v_putX (pc := 49) oF_Md_25 rfl (own_ok (by decide +kernel)) e30 (show decode (tC tMd_init) 49 = .ok (.putfield 25, 3) by decide +kernel) ?_
  refine v_aload_n (pc := 52) (show decode (tC tMd_init) 52 = .ok (.aload_n 0, 1) by decide +kernel) 0 rfl rfl ?_
  refine v_bipush (pc := 53) (v := 32) (show decode (tC tMd_init) 53 = .ok (.bipush 32, 2) by decide +kernel) (by decide) ?_
  obtain ⟨a31, S32, e33, h⟩ := ob2 h
  refine v_mkI (pc := 55) (n := 32) e33 (by decide) (by decide) (by decide) (by rw [hR]; (try simp only [rMd_init]); omega) (by rw [hR]; (try simp only [rMd_init]); omega) (show decode (tC tMd_init) 55 = .ok (.newarray .int, 2) by decide +kernel) ?_
  obtain ⟨S34, e35, h⟩ := ob h
  refine v_putX (pc := 57) oF_Md_28 rfl (own_ok (by decide +kernel)) e35 (show decode (tC tMd_init) 57 = .ok (.putfield 28, 3) by decide +kernel) ?_
  refine v_aload_n (pc := 60) (show decode (tC tMd_init) 60 = .ok (.aload_n 0, 1) by decide +kernel) 0 rfl rfl ?_
  refine v_bipush (pc := 61) (v := 8) (show decode (tC tMd_init) 61 = .ok (.bipush 8, 2) by decide +kernel) (by decide) ?_
  obtain ⟨a36, S37, e38, h⟩ := ob2 h
  refine v_mkI (pc := 63) (n := 8) e38 (by decide) (by decide) (by decide) (by rw [hR]; (try simp only [rMd_init]); omega) (by rw [hR]; (try simp only [rMd_init]); omega) (show decode (tC tMd_init) 63 = .ok (.newarray .int, 2) by decide +kernel) ?_
  obtain ⟨S39, e40, h⟩ := ob h
  refine v_putX (pc := 65) oF_Md_31 rfl (own_ok (by decide +kernel)) e40 (show decode (tC tMd_init) 65 = .ok (.putfield 31, 3) by decide +kernel) ?_
  refine v_aload_n (pc := 68) (show decode (tC tMd_init) 68 = .ok (.aload_n 0, 1) by decide +kernel) 0 rfl rfl ?_
  refine v_bipush (pc := 69) (v := 16) (show decode (tC tMd_init) 69 = .ok (.bipush 16, 2) by decide +kernel) (by decide) ?_
  obtain ⟨a41, S42, e43, h⟩ := ob2 h
  refine v_mkI (pc := 71) (n := 16) e43 (by decide) (by decide) (by decide) (by rw [hR]; (try simp only [rMd_init]); omega) (by rw [hR]; (try simp only [rMd_init]); omega) (show decode (tC tMd_init) 71 = .ok (.newarray .int, 2) by decide +kernel) ?_
  obtain ⟨S44, e45, h⟩ := ob h
  refine v_putX (pc := 73) oF_Md_34 rfl (own_ok (by decide +kernel)) e45 (show decode (tC tMd_init) 73 = .ok (.putfield 34, 3) by decide +kernel) ?_
  refine v_aload_n (pc := 76) (show decode (tC tMd_init) 76 = .ok (.aload_n 0, 1) by decide +kernel) 0 rfl rfl ?_
  refine v_bipush (pc := 77) (v := 64) (show decode (tC tMd_init) 77 = .ok (.bipush 64, 2) by decide +kernel) (by decide) ?_
  obtain ⟨a46, S47, e48, h⟩ := ob2 h
  refine v_mkI (pc := 79) (n := 64) e48 (by decide) (by decide) (by decide) (by rw [hR]; (try simp only [rMd_init]); omega) (by rw [hR]; (try simp only [rMd_init]); omega) (show decode (tC tMd_init) 79 = .ok (.newarray .int, 2) by decide +kernel) ?_
  obtain ⟨S49, e50, h⟩ := ob h
  refine v_putX (pc := 81) oF_Md_37 rfl (own_ok (by decide +kernel)) e50 (show decode (tC tMd_init) 81 = .ok (.putfield 37, 3) by decide +kernel) ?_
  refine v_aload_n (pc := 84) (show decode (tC tMd_init) 84 = .ok (.aload_n 0, 1) by decide +kernel) 0 rfl rfl ?_
  refine v_bipush (pc := 85) (v := 64) (show decode (tC tMd_init) 85 = .ok (.bipush 64, 2) by decide +kernel) (by decide) ?_
  obtain ⟨a51, S52, e53, h⟩ := ob2 h
  refine v_mkI (pc := 87) (n := 64) e53 (by decide) (by decide) (by decide) (by rw [hR]; (try simp only [rMd_init]); omega) (by rw [hR]; (try simp only [rMd_init]); omega) (show decode (tC tMd_init) 87 = .ok (.newarray .int, 2) by decide +kernel) ?_
  obtain ⟨S54, e55, h⟩ := ob h
  refine v_putX (pc := 89) oF_Md_40 rfl (own_ok (by decide +kernel)) e55 (show decode (tC tMd_init) 89 = .ok (.putfield 40, 3) by decide +kernel) ?_
  refine v_aload_n (pc := 92) (show decode (tC tMd_init) 92 = .ok (.aload_n 0, 1) by decide +kernel) 0 rfl rfl ?_
  refine v_bipush (pc := 93) (v := 64) (show decode (tC tMd_init) 93 = .ok (.bipush 64, 2) by decide +kernel) (by decide) ?_
  obtain ⟨a56, S57, e58, h⟩ := ob2 h
  refine v_mkI (pc := 95) (n := 64) e58 (by decide) (by decide) (by decide) (by rw [hR]; (try simp only [rMd_init]); omega) (by rw [hR]; (try simp only [rMd_init]); omega) (show decode (tC tMd_init) 95 = .ok (.newarray .int, 2) by decide +kernel) ?_
  obtain ⟨S59, e60, h⟩ := ob h
  refine v_putX (pc := 97) oF_Md_43 rfl (own_ok (by decide +kernel)) e60 (show decode (tC tMd_init) 97 = .ok (.putfield 43, 3) by decide +kernel) ?_
  refine v_aload_n (pc := 100) (show decode (tC tMd_init) 100 = .ok (.aload_n 0, 1) by decide +kernel) 0 rfl rfl ?_
  refine v_bipush (pc := 101) (v := 64) (show decode (tC tMd_init) 101 = .ok (.bipush 64, 2) by decide +kernel) (by decide) ?_
  obtain ⟨a61, S62, e63, h⟩ := ob2 h
  refine v_mkI (pc := 103) (n := 64) e63 (by decide) (by decide) (by decide) (by rw [hR]; (try simp only [rMd_init]); omega) (by rw [hR]; (try simp only [rMd_init]); omega) (show decode (tC tMd_init) 103 = .ok (.newarray .int, 2) by decide +kernel) ?_
  obtain ⟨S64, e65, h⟩ := ob h
  refine v_putX (pc := 105) oF_Md_46 rfl (own_ok (by decide +kernel)) e65 (show decode (tC tMd_init) 105 = .ok (.putfield 46, 3) by decide +kernel) ?_
  refine v_aload_n (pc := 108) (show decode (tC tMd_init) 108 = .ok (.aload_n 0, 1) by decide +kernel) 0 rfl rfl ?_
  refine v_bipush (pc := 109) (v := 8) (show decode (tC tMd_init) 109 = .ok (.bipush 8, 2) by decide +kernel) (by decide) ?_
  obtain ⟨a66, S67, e68, h⟩ := ob2 h
  refine v_mkI (pc := 111) (n := 8) e68 (by decide) (by decide) (by decide) (by rw [hR]; (try simp only [rMd_init]); omega) (by rw [hR]; (try simp only [rMd_init]); omega) (show decode (tC tMd_init) 111 = .ok (.newarray .int, 2) by decide +kernel) ?_
  obtain ⟨S69, e70, h⟩ := ob h
  refine v_putX (pc := 113) oF_Md_49 rfl (own_ok (by decide +kernel)) e70 (show decode (tC tMd_init) 113 = .ok (.putfield 49, 3) by decide +kernel) ?_
  refine v_aload_n (pc := 116) (show decode (tC tMd_init) 116 = .ok (.aload_n 0, 1) by decide +kernel) 0 rfl rfl ?_
  refine v_bipush (pc := 117) (v := 8) (show decode (tC tMd_init) 117 = .ok (.bipush 8, 2) by decide +kernel) (by decide) ?_
  obtain ⟨a71, S72, e73, h⟩ := ob2 h
  refine v_mkI (pc := 119) (n := 8) e73 (by decide) (by decide) (by decide) (by rw [hR]; (try simp only [rMd_init]); omega) (by rw [hR]; (try simp only [rMd_init]); omega) (show decode (tC tMd_init) 119 = .ok (.newarray .int, 2) by decide +kernel) ?_
  obtain ⟨S74, e75, h⟩ := ob h
  refine v_putX (pc := 121) oF_Md_52 rfl (own_ok (by decide +kernel)) e75 (show decode (tC tMd_init) 121 = .ok (.putfield 52, 3) by decide +kernel) ?_
  refine v_aload_n (pc := 124) (show decode (tC tMd_init) 124 = .ok (.aload_n 0, 1) by decide +kernel) 0 rfl rfl ?_
  refine v_bipush (pc := 125) (v := 8) (show decode (tC tMd_init) 125 = .ok (.bipush 8, 2) by decide +kernel) (by decide) ?_
  obtain ⟨a76, S77, e78, h⟩ := ob2 h
  refine v_mkI (pc := 127) (n := 8) e78 (by decide) (by decide) (by decide) (by rw [hR]; (try simp only [rMd_init]); omega) (by rw [hR]; (try simp only [rMd_init]); omega) (show decode (tC tMd_init) 127 = .ok (.newarray .int, 2) by decide +kernel) ?_
  obtain ⟨S79, e80, h⟩ := ob h
  refine v_putX (pc := 129) oF_Md_55 rfl (own_ok (by decide +kernel)) e80 (show decode (tC tMd_init) 129 = .ok (.putfield 55, 3) by decide +kernel) ?_
  refine v_aload_n (pc := 132) (show decode (tC tMd_init) 132 = .ok (.aload_n 0, 1) by decide +kernel) 0 rfl rfl ?_
  refine v_bipush (pc := 133) (v := 8) (show decode (tC tMd_init) 133 = .ok (.bipush 8, 2) by decide +kernel) (by decide) ?_
  obtain ⟨a81, S82, e83, h⟩ := ob2 h
  refine v_mkI (pc := 135) (n := 8) e83 (by decide) (by decide) (by decide) (by rw [hR]; (try simp only [rMd_init]); omega) (by rw [hR]; (try simp only [rMd_init]); omega) (show decode (tC tMd_init) 135 = .ok (.newarray .int, 2) by decide +kernel) ?_
  obtain ⟨S84, e85, h⟩ := ob h
  refine v_putX (pc := 137) oF_Md_58 rfl (own_ok (by decide +kernel)) e85 (show decode (tC tMd_init) 137 = .ok (.putfield 58, 3) by decide +kernel) ?_
  refine v_aload_n (pc := 140) (show decode (tC tMd_init) 140 = .ok (.aload_n 0, 1) by decide +kernel) 0 rfl rfl ?_
  refine v_bipush (pc := 141) (v := 8) (show decode (tC tMd_init) 141 = .ok (.bipush 8, 2) by decide +kernel) (by decide) ?_
  obtain ⟨a86, S87, e88, h⟩ := ob2 h
  refine v_mkI (pc := 143) (n := 8) e88 (by decide) (by decide) (by decide) (by rw [hR]; (try simp only [rMd_init]); omega) (by rw [hR]; (try simp only [rMd_init]); omega) (show decode (tC tMd_init) 143 = .ok (.newarray .int, 2) by decide +kernel) ?_
  obtain ⟨S89, e90, h⟩ := ob h
  refine v_putX (pc := 145) oF_Md_61 rfl (own_ok (by decide +kernel)) e90 (show decode (tC tMd_init) 145 = .ok (.putfield 61, 3) by decide +kernel) ?_
  refine v_aload_n (pc := 148) (show decode (tC tMd_init) 148 = .ok (.aload_n 0, 1) by decide +kernel) 0 rfl rfl ?_
  refine v_bipush (pc := 149) (v := 8) (show decode (tC tMd_init) 149 = .ok (.bipush 8, 2) by decide +kernel) (by decide) ?_
  obtain ⟨a91, S92, e93, h⟩ := ob2 h
  refine v_mkI (pc := 151) (n := 8) e93 (by decide) (by decide) (by decide) (by rw [hR]; (try simp only [rMd_init]); omega) (by rw [hR]; (try simp only [rMd_init]); omega) (show decode (tC tMd_init) 151 = .ok (.newarray .int, 2) by decide +kernel) ?_
  obtain ⟨S94, e95, h⟩ := ob h
  refine v_putX (pc := 153) oF_Md_64 rfl (own_ok (by decide +kernel)) e95 (show decode (tC tMd_init) 153 = .ok (.putfield 64, 3) by decide +kernel) ?_
  refine v_aload_n (pc := 156) (show decode (tC tMd_init) 156 = .ok (.aload_n 0, 1) by decide +kernel) 0 rfl rfl ?_
  refine v_bipush (pc := 157) (v := 16) (show decode (tC tMd_init) 157 = .ok (.bipush 16, 2) by decide +kernel) (by decide) ?_
  obtain ⟨a96, S97, e98, h⟩ := ob2 h
  refine v_mkI (pc := 159) (n := 16) e98 (by decide) (by decide) (by decide) (by rw [hR]; (try simp only [rMd_init]); omega) (by rw [hR]; (try simp only [rMd_init]); omega) (show decode (tC tMd_init) 159 = .ok (.newarray .int, 2) by decide +kernel) ?_
  obtain ⟨S99, e100, h⟩ := ob h
  refine v_putX (pc := 161) oF_Md_67 rfl (own_ok (by decide +kernel)) e100 (show decode (tC tMd_init) 161 = .ok (.putfield 67, 3) by decide +kernel) ?_
  refine v_aload_n (pc := 164) (show decode (tC tMd_init) 164 = .ok (.aload_n 0, 1) by decide +kernel) 0 rfl rfl ?_
  refine v_bipush (pc := 165) (v := 16) (show decode (tC tMd_init) 165 = .ok (.bipush 16, 2) by decide +kernel) (by decide) ?_
  obtain ⟨a101, S102, e103, h⟩ := ob2 h
  refine v_mkI (pc := 167) (n := 16) e103 (by decide) (by decide) (by decide) (by rw [hR]; (try simp only [rMd_init]); omega) (by rw [hR]; (try simp only [rMd_init]); omega) (show decode (tC tMd_init) 167 = .ok (.newarray .int, 2) by decide +kernel) ?_
  obtain ⟨S104, e105, h⟩ := ob h
  refine v_putX (pc := 169) oF_Md_70 rfl (own_ok (by decide +kernel)) e105 (show decode (tC tMd_init) 169 = .ok (.putfield 70, 3) by decide +kernel) ?_
  refine v_aload_n (pc := 172) (show decode (tC tMd_init) 172 = .ok (.aload_n 0, 1) by decide +kernel) 0 rfl rfl ?_
  refine v_bipush (pc := 173) (v := 16) (show decode (tC tMd_init) 173 = .ok (.bipush 16, 2) by decide +kernel) (by decide) ?_
  obtain ⟨a106, S107, e108, h⟩ := ob2 h
  refine v_mkI (pc := 175) (n := 16) e108 (by decide) (by decide) (by decide) (by rw [hR]; (try simp only [rMd_init]); omega) (by rw [hR]; (try simp only [rMd_init]); omega) (show decode (tC tMd_init) 175 = .ok (.newarray .int, 2) by decide +kernel) ?_
  obtain ⟨S109, e110, h⟩ := ob h
  refine v_putX (pc := 177) oF_Md_73 rfl (own_ok (by decide +kernel)) e110 (show decode (tC tMd_init) 177 = .ok (.putfield 73, 3) by decide +kernel) ?_
  refine v_aload_n (pc := 180) (show decode (tC tMd_init) 180 = .ok (.aload_n 0, 1) by decide +kernel) 0 rfl rfl ?_
  refine v_bipush (pc := 181) (v := 16) (show decode (tC tMd_init) 181 = .ok (.bipush 16, 2) by decide +kernel) (by decide) ?_
  obtain ⟨a111, S112, e113, h⟩ := ob2 h
  refine v_mkI (pc := 183) (n := 16) e113 (by decide) (by decide) (by decide) (by rw [hR]; (try simp only [rMd_init]); omega) (by rw [hR]; (try simp only [rMd_init]); omega) (show decode (tC tMd_init) 183 = .ok (.newarray .int, 2) by decide +kernel) ?_
  obtain ⟨S114, e115, h⟩ := ob h
  refine v_putX (pc := 185) oF_Md_76 rfl (own_ok (by decide +kernel)) e115 (show decode (tC tMd_init) 185 = .ok (.putfield 76, 3) by decide +kernel) ?_
  refine v_aload_n (pc := 188) (show decode (tC tMd_init) 188 = .ok (.aload_n 0, 1) by decide +kernel) 0 rfl rfl ?_
  refine v_bipush (pc := 189) (v := 16) (show decode (tC tMd_init) 189 = .ok (.bipush 16, 2) by decide +kernel) (by decide) ?_
  obtain ⟨a116, S117, e118, h⟩ := ob2 h
  refine v_mkI (pc := 191) (n := 16) e118 (by decide) (by decide) (by decide) (by rw [hR]; (try simp only [rMd_init]); omega) (by rw [hR]; (try simp only [rMd_init]); omega) (show decode (tC tMd_init) 191 = .ok (.newarray .int, 2) by decide +kernel) ?_
  obtain ⟨S119, e120, h⟩ := ob h
  refine v_putX (pc := 193) oF_Md_79 rfl (own_ok (by decide +kernel)) e120 (show decode (tC tMd_init) 193 = .ok (.putfield 79, 3) by decide +kernel) ?_
  refine v_aload_n (pc := 196) (show decode (tC tMd_init) 196 = .ok (.aload_n 0, 1) by decide +kernel) 0 rfl rfl ?_
  refine v_bipush (pc := 197) (v := 16) (show decode (tC tMd_init) 197 = .ok (.bipush 16, 2) by decide +kernel) (by decide) ?_
  obtain ⟨a121, S122, e123, h⟩ := ob2 h
  refine v_mkI (pc := 199) (n := 16) e123 (by decide) (by decide) (by decide) (by rw [hR]; (try simp only [rMd_init]); omega) (by rw [hR]; (try simp only [rMd_init]); omega) (show decode (tC tMd_init) 199 = .ok (.newarray .int, 2) by decide +kernel) ?_
  obtain ⟨S124, e125, h⟩ := ob h
  refine v_putX (pc := 201) oF_Md_82 rfl (own_ok (by decide +kernel)) e125 (show decode (tC tMd_init) 201 = .ok (.putfield 82, 3) by decide +kernel) ?_
  refine v_aload_n (pc := 204) (show decode (tC tMd_init) 204 = .ok (.aload_n 0, 1) by decide +kernel) 0 rfl rfl ?_
  refine v_iconst (pc := 205) (v := (-1)) (show decode (tC tMd_init) 205 = .ok (.iconst (-1), 1) by decide +kernel) (by decide) ?_
  obtain ⟨S126, e127, h⟩ := ob h
  refine v_putI (pc := 206) oF_Md_85 (fin_ok (kd := 12) (k := 34) (by decide +kernel)) e127 (show decode (tC tMd_init) 206 = .ok (.putfield 85, 3) by decide +kernel) ?_
  refine v_aload_n (pc := 209) (show decode (tC tMd_init) 209 = .ok (.aload_n 0, 1) by decide +kernel) 0 rfl rfl ?_
  refine v_bipush (pc := 210) (v := 8) (show decode (tC tMd_init) 210 = .ok (.bipush 8, 2) by decide +kernel) (by decide) ?_
  obtain ⟨a128, S129, e130, h⟩ := ob2 h
  refine v_mkI (pc := 212) (n := 8) e130 (by decide) (by decide) (by decide) (by rw [hR]; (try simp only [rMd_init]); omega) (by rw [hR]; (try simp only [rMd_init]); omega) (show decode (tC tMd_init) 212 = .ok (.newarray .int, 2) by decide +kernel) ?_
  obtain ⟨S131, e132, h⟩ := ob h
  refine v_putX (pc := 214) oF_Md_89 rfl (own_ok (by decide +kernel)) e132 (show decode (tC tMd_init) 214 = .ok (.putfield 89, 3) by decide +kernel) ?_
  refine v_aload_n (pc := 217) (show decode (tC tMd_init) 217 = .ok (.aload_n 0, 1) by decide +kernel) 0 rfl rfl ?_
  refine v_sipush (pc := 218) (v := 160) (show decode (tC tMd_init) 218 = .ok (.sipush 160, 3) by decide +kernel) (by decide) ?_
  obtain ⟨a133, S134, e135, h⟩ := ob2 h
  refine v_mkI (pc := 221) (n := 160) e135 (by decide) (by decide) (by decide) (by rw [hR]; (try simp only [rMd_init]); omega) (by rw [hR]; (try simp only [rMd_init]); omega) (show decode (tC tMd_init) 221 = .ok (.newarray .int, 2) by decide +kernel) ?_
  obtain ⟨S136, e137, h⟩ := ob h
  refine v_putX (pc := 223) oF_Md_92 rfl (own_ok (by decide +kernel)) e137 (show decode (tC tMd_init) 223 = .ok (.putfield 92, 3) by decide +kernel) ?_
  refine v_aload_n (pc := 226) (show decode (tC tMd_init) 226 = .ok (.aload_n 0, 1) by decide +kernel) 0 rfl rfl ?_
  refine v_sipush (pc := 227) (v := 160) (show decode (tC tMd_init) 227 = .ok (.sipush 160, 3) by decide +kernel) (by decide) ?_
  obtain ⟨a138, S139, e140, h⟩ := ob2 h
  refine v_mkI (pc := 230) (n := 160) e140 (by decide) (by decide) (by decide) (by rw [hR]; (try simp only [rMd_init]); omega) (by rw [hR]; (try simp only [rMd_init]); omega) (show decode (tC tMd_init) 230 = .ok (.newarray .int, 2) by decide +kernel) ?_
  obtain ⟨S141, e142, h⟩ := ob h
  refine v_putX (pc := 232) oF_Md_95 rfl (own_ok (by decide +kernel)) e142 (show decode (tC tMd_init) 232 = .ok (.putfield 95, 3) by decide +kernel) ?_
  refine v_aload_n (pc := 235) (show decode (tC tMd_init) 235 = .ok (.aload_n 0, 1) by decide +kernel) 0 rfl rfl ?_
  refine v_sipush (pc := 236) (v := 160) (show decode (tC tMd_init) 236 = .ok (.sipush 160, 3) by decide +kernel) (by decide) ?_
  obtain ⟨a143, S144, e145, h⟩ := ob2 h
  refine v_mkI (pc := 239) (n := 160) e145 (by decide) (by decide) (by decide) (by rw [hR]; (try simp only [rMd_init]); omega) (by rw [hR]; (try simp only [rMd_init]); omega) (show decode (tC tMd_init) 239 = .ok (.newarray .int, 2) by decide +kernel) ?_
  obtain ⟨S146, e147, h⟩ := ob h
  refine v_putX (pc := 241) oF_Md_98 rfl (own_ok (by decide +kernel)) e147 (show decode (tC tMd_init) 241 = .ok (.putfield 98, 3) by decide +kernel) ?_
  refine v_aload_n (pc := 244) (show decode (tC tMd_init) 244 = .ok (.aload_n 0, 1) by decide +kernel) 0 rfl rfl ?_
  refine v_sipush (pc := 245) (v := 160) (show decode (tC tMd_init) 245 = .ok (.sipush 160, 3) by decide +kernel) (by decide) ?_
  obtain ⟨a148, S149, e150, h⟩ := ob2 h
  refine v_mkI (pc := 248) (n := 160) e150 (by decide) (by decide) (by decide) (by rw [hR]; (try simp only [rMd_init]); omega) (by rw [hR]; (try simp only [rMd_init]); omega) (show decode (tC tMd_init) 248 = .ok (.newarray .int, 2) by decide +kernel) ?_
  obtain ⟨S151, e152, h⟩ := ob h
  refine v_putX (pc := 250) oF_Md_101 rfl (own_ok (by decide +kernel)) e152 (show decode (tC tMd_init) 250 = .ok (.putfield 101, 3) by decide +kernel) ?_
  refine v_aload_n (pc := 253) (show decode (tC tMd_init) 253 = .ok (.aload_n 0, 1) by decide +kernel) 0 rfl rfl ?_
  refine v_sipush (pc := 254) (v := 160) (show decode (tC tMd_init) 254 = .ok (.sipush 160, 3) by decide +kernel) (by decide) ?_
  obtain ⟨a153, S154, e155, h⟩ := ob2 h
  refine v_mkI (pc := 257) (n := 160) e155 (by decide) (by decide) (by decide) (by rw [hR]; (try simp only [rMd_init]); omega) (by rw [hR]; (try simp only [rMd_init]); omega) (show decode (tC tMd_init) 257 = .ok (.newarray .int, 2) by decide +kernel) ?_
  obtain ⟨S156, e157, h⟩ := ob h
  refine v_putX (pc := 259) oF_Md_104 rfl (own_ok (by decide +kernel)) e157 (show decode (tC tMd_init) 259 = .ok (.putfield 104, 3) by decide +kernel) ?_
  refine v_aload_n (pc := 262) (show decode (tC tMd_init) 262 = .ok (.aload_n 0, 1) by decide +kernel) 0 rfl rfl ?_
  refine v_sipush (pc := 263) (v := 160) (show decode (tC tMd_init) 263 = .ok (.sipush 160, 3) by decide +kernel) (by decide) ?_
  obtain ⟨a158, S159, e160, h⟩ := ob2 h
  refine v_mkI (pc := 266) (n := 160) e160 (by decide) (by decide) (by decide) (by rw [hR]; (try simp only [rMd_init]); omega) (by rw [hR]; (try simp only [rMd_init]); omega) (show decode (tC tMd_init) 266 = .ok (.newarray .int, 2) by decide +kernel) ?_
  obtain ⟨S161, e162, h⟩ := ob h
  refine v_putX (pc := 268) oF_Md_107 rfl (own_ok (by decide +kernel)) e162 (show decode (tC tMd_init) 268 = .ok (.putfield 107, 3) by decide +kernel) ?_
  refine v_aload_n (pc := 271) (show decode (tC tMd_init) 271 = .ok (.aload_n 0, 1) by decide +kernel) 0 rfl rfl ?_
  refine v_sipush (pc := 272) (v := 160) (show decode (tC tMd_init) 272 = .ok (.sipush 160, 3) by decide +kernel) (by decide) ?_
  obtain ⟨a163, S164, e165, h⟩ := ob2 h
  refine v_mkI (pc := 275) (n := 160) e165 (by decide) (by decide) (by decide) (by rw [hR]; (try simp only [rMd_init]); omega) (by rw [hR]; (try simp only [rMd_init]); omega) (show decode (tC tMd_init) 275 = .ok (.newarray .int, 2) by decide +kernel) ?_
  obtain ⟨S166, e167, h⟩ := ob h
  refine v_putX (pc := 277) oF_Md_110 rfl (own_ok (by decide +kernel)) e167 (show decode (tC tMd_init) 277 = .ok (.putfield 110, 3) by decide +kernel) ?_
  refine v_aload_n (pc := 280) (show decode (tC tMd_init) 280 = .ok (.aload_n 0, 1) by decide +kernel) 0 rfl rfl ?_
  refine v_sipush (pc := 281) (v := 160) (show decode (tC tMd_init) 281 = .ok (.sipush 160, 3) by decide +kernel) (by decide) ?_
  obtain ⟨a168, S169, e170, h⟩ := ob2 h
  refine v_mkI (pc := 284) (n := 160) e170 (by decide) (by decide) (by decide) (by rw [hR]; (try simp only [rMd_init]); omega) (by rw [hR]; (try simp only [rMd_init]); omega) (show decode (tC tMd_init) 284 = .ok (.newarray .int, 2) by decide +kernel) ?_
  obtain ⟨S171, e172, h⟩ := ob h
  refine v_putX (pc := 286) oF_Md_113 rfl (own_ok (by decide +kernel)) e172 (show decode (tC tMd_init) 286 = .ok (.putfield 113, 3) by decide +kernel) ?_
  refine v_aload_n (pc := 289) (show decode (tC tMd_init) 289 = .ok (.aload_n 0, 1) by decide +kernel) 0 rfl rfl ?_
  refine v_bipush (pc := 290) (v := 64) (show decode (tC tMd_init) 290 = .ok (.bipush 64, 2) by decide +kernel) (by decide) ?_
  obtain ⟨a173, S174, e175, h⟩ := ob2 h
  refine v_mkI (pc := 292) (n := 64) e175 (by decide) (by decide) (by decide) (by rw [hR]; (try simp only [rMd_init]); omega) (by rw [hR]; (try simp only [rMd_init]); omega) (show decode (tC tMd_init) 292 = .ok (.newarray .int, 2) by decide +kernel) ?_
  obtain ⟨S176, e177, h⟩ := ob h
  refine v_putX (pc := 294) oF_Md_116 rfl (own_ok (by decide +kernel)) e177 (show decode (tC tMd_init) 294 = .ok (.putfield 116, 3) by decide +kernel) ?_
  refine v_aload_n (pc := 297) (show decode (tC tMd_init) 297 = .ok (.aload_n 0, 1) by decide +kernel) 0 rfl rfl ?_
  refine v_bipush (pc := 298) (v := 20) (show decode (tC tMd_init) 298 = .ok (.bipush 20, 2) by decide +kernel) (by decide) ?_
  obtain ⟨a178, S179, e180, h⟩ := ob2 h
  refine v_mkI (pc := 300) (n := 20) e180 (by decide) (by decide) (by decide) (by rw [hR]; (try simp only [rMd_init]); omega) (by rw [hR]; (try simp only [rMd_init]); omega) (show decode (tC tMd_init) 300 = .ok (.newarray .int, 2) by decide +kernel) ?_
  obtain ⟨S181, e182, h⟩ := ob h
  refine v_putX (pc := 302) oF_Md_119 rfl (own_ok (by decide +kernel)) e182 (show decode (tC tMd_init) 302 = .ok (.putfield 119, 3) by decide +kernel) ?_
  refine v_aload_n (pc := 305) (show decode (tC tMd_init) 305 = .ok (.aload_n 0, 1) by decide +kernel) 0 rfl rfl ?_
  refine v_bipush (pc := 306) (v := 60) (show decode (tC tMd_init) 306 = .ok (.bipush 60, 2) by decide +kernel) (by decide) ?_
  obtain ⟨a183, S184, e185, h⟩ := ob2 h
  refine v_mkI (pc := 308) (n := 60) e185 (by decide) (by decide) (by decide) (by rw [hR]; (try simp only [rMd_init]); omega) (by rw [hR]; (try simp only [rMd_init]); omega) (show decode (tC tMd_init) 308 = .ok (.newarray .int, 2) by decide +kernel) ?_
  obtain ⟨S186, e187, h⟩ := ob h
  refine v_putX (pc := 310) oF_Md_122 rfl (own_ok (by decide +kernel)) e187 (show decode (tC tMd_init) 310 = .ok (.putfield 122, 3) by decide +kernel) ?_
  refine v_aload_n (pc := 313) (show decode (tC tMd_init) 313 = .ok (.aload_n 0, 1) by decide +kernel) 0 rfl rfl ?_
  refine v_bipush (pc := 314) (v := 41) (show decode (tC tMd_init) 314 = .ok (.bipush 41, 2) by decide +kernel) (by decide) ?_
  obtain ⟨a188, S189, e190, h⟩ := ob2 h
  refine v_mkI (pc := 316) (n := 41) e190 (by decide) (by decide) (by decide) (by rw [hR]; (try simp only [rMd_init]); omega) (by rw [hR]; (try simp only [rMd_init]); omega) (show decode (tC tMd_init) 316 = .ok (.newarray .int, 2) by decide +kernel) ?_
  obtain ⟨S191, e192, h⟩ := ob h
  refine v_putX (pc := 318) oF_Md_125 rfl (own_ok (by decide +kernel)) e192 (show decode (tC tMd_init) 318 = .ok (.putfield 125, 3) by decide +kernel) ?_
  refine v_aload_n (pc := 321) (show decode (tC tMd_init) 321 = .ok (.aload_n 0, 1) by decide +kernel) 0 rfl rfl ?_
  refine v_bipush (pc := 322) (v := 41) (show decode (tC tMd_init) 322 = .ok (.bipush 41, 2) by decide +kernel) (by decide) ?_
  obtain ⟨a193, S194, e195, h⟩ := ob2 h
  refine v_mkI (pc := 324) (n := 41) e195 (by decide) (by decide) (by decide) (by rw [hR]; (try simp only [rMd_init]); omega) (by rw [hR]; (try simp only [rMd_init]); omega) (show decode (tC tMd_init) 324 = .ok (.newarray .int, 2) by decide +kernel) ?_
  obtain ⟨S196, e197, h⟩ := ob h
  refine v_putX (pc := 326) oF_Md_128 rfl (own_ok (by decide +kernel)) e197 (show decode (tC tMd_init) 326 = .ok (.putfield 128, 3) by decide +kernel) ?_
  refine v_aload_n (pc := 329) (show decode (tC tMd_init) 329 = .ok (.aload_n 0, 1) by decide +kernel) 0 rfl rfl ?_
  refine v_sipush (pc := 330) (v := 2460) (show decode (tC tMd_init) 330 = .ok (.sipush 2460, 3) by decide +kernel) (by decide) ?_
  obtain ⟨a198, S199, e200, h⟩ := ob2 h
  refine v_mkI (pc := 333) (n := 2460) e200 (by decide) (by decide) (by decide) (by rw [hR]; (try simp only [rMd_init]); omega) (by rw [hR]; (try simp only [rMd_init]); omega) (show decode (tC tMd_init) 333 = .ok (.newarray .int, 2) by decide +kernel) ?_
  obtain ⟨S201, e202, h⟩ := ob h
  refine v_putX (pc := 335) oF_Md_131 rfl (own_ok (by decide +kernel)) e202 (show decode (tC tMd_init) 335 = .ok (.putfield 131, 3) by decide +kernel) ?_
  refine v_aload_n (pc := 338) (show decode (tC tMd_init) 338 = .ok (.aload_n 0, 1) by decide +kernel) 0 rfl rfl ?_
  refine v_bipush (pc := 339) (v := 41) (show decode (tC tMd_init) 339 = .ok (.bipush 41, 2) by decide +kernel) (by decide) ?_
  obtain ⟨a203, S204, e205, h⟩ := ob2 h
  refine v_mkI (pc := 341) (n := 41) e205 (by decide) (by decide) (by decide) (by rw [hR]; (try simp only [rMd_init]); omega) (by rw [hR]; (try simp only [rMd_init]); omega) (show decode (tC tMd_init) 341 = .ok (.newarray .int, 2) by decide +kernel) ?_
  obtain ⟨S206, e207, h⟩ := ob h
  refine v_putX (pc := 343) oF_Md_134 rfl (own_ok (by decide +kernel)) e207 (show decode (tC tMd_init) 343 = .ok (.putfield 134, 3) by decide +kernel) ?_
  refine v_aload_n (pc := 346) (show decode (tC tMd_init) 346 = .ok (.aload_n 0, 1) by decide +kernel) 0 rfl rfl ?_
  refine v_sipush (pc := 347) (v := 164) (show decode (tC tMd_init) 347 = .ok (.sipush 164, 3) by decide +kernel) (by decide) ?_
  obtain ⟨a208, S209, e210, h⟩ := ob2 h
  refine v_mkI (pc := 350) (n := 164) e210 (by decide) (by decide) (by decide) (by rw [hR]; (try simp only [rMd_init]); omega) (by rw [hR]; (try simp only [rMd_init]); omega) (show decode (tC tMd_init) 350 = .ok (.newarray .int, 2) by decide +kernel) ?_
  obtain ⟨S211, e212, h⟩ := ob h
  refine v_putX (pc := 352) oF_Md_137 rfl (own_ok (by decide +kernel)) e212 (show decode (tC tMd_init) 352 = .ok (.putfield 137, 3) by decide +kernel) ?_
  refine v_aload_n (pc := 355) (show decode (tC tMd_init) 355 = .ok (.aload_n 0, 1) by decide +kernel) 0 rfl rfl ?_
  refine v_bipush (pc := 356) (v := 41) (show decode (tC tMd_init) 356 = .ok (.bipush 41, 2) by decide +kernel) (by decide) ?_
  obtain ⟨a213, S214, e215, h⟩ := ob2 h
  refine v_mkI (pc := 358) (n := 41) e215 (by decide) (by decide) (by decide) (by rw [hR]; (try simp only [rMd_init]); omega) (by rw [hR]; (try simp only [rMd_init]); omega) (show decode (tC tMd_init) 358 = .ok (.newarray .int, 2) by decide +kernel) ?_
  obtain ⟨S216, e217, h⟩ := ob h
  refine v_putX (pc := 360) oF_Md_140 rfl (own_ok (by decide +kernel)) e217 (show decode (tC tMd_init) 360 = .ok (.putfield 140, 3) by decide +kernel) ?_
  refine v_aload_n (pc := 363) (show decode (tC tMd_init) 363 = .ok (.aload_n 0, 1) by decide +kernel) 0 rfl rfl ?_
  refine v_bipush (pc := 364) (v := 41) (show decode (tC tMd_init) 364 = .ok (.bipush 41, 2) by decide +kernel) (by decide) ?_
  obtain ⟨a218, S219, e220, h⟩ := ob2 h
  refine v_mkI (pc := 366) (n := 41) e220 (by decide) (by decide) (by decide) (by rw [hR]; (try simp only [rMd_init]); omega) (by rw [hR]; (try simp only [rMd_init]); omega) (show decode (tC tMd_init) 366 = .ok (.newarray .int, 2) by decide +kernel) ?_
  obtain ⟨S221, e222, h⟩ := ob h
  refine v_putX (pc := 368) oF_Md_143 rfl (own_ok (by decide +kernel)) e222 (show decode (tC tMd_init) 368 = .ok (.putfield 143, 3) by decide +kernel) ?_
  refine v_aload_n (pc := 371) (show decode (tC tMd_init) 371 = .ok (.aload_n 0, 1) by decide +kernel) 0 rfl rfl ?_
  refine v_bipush (pc := 372) (v := 41) (show decode (tC tMd_init) 372 = .ok (.bipush 41, 2) by decide +kernel) (by decide) ?_
  obtain ⟨a223, S224, e225, h⟩ := ob2 h
  refine v_mkI (pc := 374) (n := 41) e225 (by decide) (by decide) (by decide) (by rw [hR]; (try simp only [rMd_init]); omega) (by rw [hR]; (try simp only [rMd_init]); omega) (show decode (tC tMd_init) 374 = .ok (.newarray .int, 2) by decide +kernel) ?_
  obtain ⟨S226, e227, h⟩ := ob h
  refine v_putX (pc := 376) oF_Md_146 rfl (own_ok (by decide +kernel)) e227 (show decode (tC tMd_init) 376 = .ok (.putfield 146, 3) by decide +kernel) ?_
  refine v_aload_n (pc := 379) (show decode (tC tMd_init) 379 = .ok (.aload_n 0, 1) by decide +kernel) 0 rfl rfl ?_
  refine v_bipush (pc := 380) (v := 41) (show decode (tC tMd_init) 380 = .ok (.bipush 41, 2) by decide +kernel) (by decide) ?_
  obtain ⟨a228, S229, e230, h⟩ := ob2 h
  refine v_mkI (pc := 382) (n := 41) e230 (by decide) (by decide) (by decide) (by rw [hR]; (try simp only [rMd_init]); omega) (by rw [hR]; (try simp only [rMd_init]); omega) (show decode (tC tMd_init) 382 = .ok (.newarray .int, 2) by decide +kernel) ?_
  obtain ⟨S231, e232, h⟩ := ob h
  refine v_putX (pc := 384) oF_Md_149 rfl (own_ok (by decide +kernel)) e232 (show decode (tC tMd_init) 384 = .ok (.putfield 149, 3) by decide +kernel) ?_
  refine v_aload_n (pc := 387) (show decode (tC tMd_init) 387 = .ok (.aload_n 0, 1) by decide +kernel) 0 rfl rfl ?_
  refine v_sipush (pc := 388) (v := 128) (show decode (tC tMd_init) 388 = .ok (.sipush 128, 3) by decide +kernel) (by decide) ?_
  obtain ⟨a233, S234, e235, h⟩ := ob2 h
  refine v_mkI (pc := 391) (n := 128) e235 (by decide) (by decide) (by decide) (by rw [hR]; (try simp only [rMd_init]); omega) (by rw [hR]; (try simp only [rMd_init]); omega) (show decode (tC tMd_init) 391 = .ok (.newarray .int, 2) by decide +kernel) ?_
  obtain ⟨S236, e237, h⟩ := ob h
  refine v_putX (pc := 393) oF_Md_152 rfl (own_ok (by decide +kernel)) e237 (show decode (tC tMd_init) 393 = .ok (.putfield 152, 3) by decide +kernel) ?_
  refine v_aload_n (pc := 396) (show decode (tC tMd_init) 396 = .ok (.aload_n 0, 1) by decide +kernel) 0 rfl rfl ?_
  refine v_sipush (pc := 397) (v := 128) (show decode (tC tMd_init) 397 = .ok (.sipush 128, 3) by decide +kernel) (by decide) ?_
  obtain ⟨a238, S239, e240, h⟩ := ob2 h
  refine v_mkI (pc := 400) (n := 128) e240 (by decide) (by decide) (by decide) (by rw [hR]; (try simp only [rMd_init]); omega) (by rw [hR]; (try simp only [rMd_init]); omega) (show decode (tC tMd_init) 400 = .ok (.newarray .int, 2) by decide +kernel) ?_
  obtain ⟨S241, e242, h⟩ := ob h
  refine v_putX (pc := 402) oF_Md_155 rfl (own_ok (by decide +kernel)) e242 (show decode (tC tMd_init) 402 = .ok (.putfield 155, 3) by decide +kernel) ?_
  refine v_aload_n (pc := 405) (show decode (tC tMd_init) 405 = .ok (.aload_n 0, 1) by decide +kernel) 0 rfl rfl ?_
  refine v_sipush (pc := 406) (v := 128) (show decode (tC tMd_init) 406 = .ok (.sipush 128, 3) by decide +kernel) (by decide) ?_
  obtain ⟨a243, S244, e245, h⟩ := ob2 h
  refine v_mkI (pc := 409) (n := 128) e245 (by decide) (by decide) (by decide) (by rw [hR]; (try simp only [rMd_init]); omega) (by rw [hR]; (try simp only [rMd_init]); omega) (show decode (tC tMd_init) 409 = .ok (.newarray .int, 2) by decide +kernel) ?_
  obtain ⟨S246, e247, h⟩ := ob h
  refine v_putX (pc := 411) oF_Md_158 rfl (own_ok (by decide +kernel)) e247 (show decode (tC tMd_init) 411 = .ok (.putfield 158, 3) by decide +kernel) ?_
  refine v_aload_n (pc := 414) (show decode (tC tMd_init) 414 = .ok (.aload_n 0, 1) by decide +kernel) 0 rfl rfl ?_
  refine v_sipush (pc := 415) (v := 128) (show decode (tC tMd_init) 415 = .ok (.sipush 128, 3) by decide +kernel) (by decide) ?_
  obtain ⟨a248, S249, e250, h⟩ := ob2 h
  refine v_mkI (pc := 418) (n := 128) e250 (by decide) (by decide) (by decide) (by rw [hR]; (try simp only [rMd_init]); omega) (by rw [hR]; (try simp only [rMd_init]); omega) (show decode (tC tMd_init) 418 = .ok (.newarray .int, 2) by decide +kernel) ?_
  obtain ⟨S251, e252, h⟩ := ob h
  refine v_putX (pc := 420) oF_Md_161 rfl (own_ok (by decide +kernel)) e252 (show decode (tC tMd_init) 420 = .ok (.putfield 161, 3) by decide +kernel) ?_
  refine v_aload_n (pc := 423) (show decode (tC tMd_init) 423 = .ok (.aload_n 0, 1) by decide +kernel) 0 rfl rfl ?_
  refine v_sipush (pc := 424) (v := 7680) (show decode (tC tMd_init) 424 = .ok (.sipush 7680, 3) by decide +kernel) (by decide) ?_
  obtain ⟨a253, S254, e255, h⟩ := ob2 h
  refine v_mkI (pc := 427) (n := 7680) e255 (by decide) (by decide) (by decide) (by rw [hR]; (try simp only [rMd_init]); omega) (by rw [hR]; (try simp only [rMd_init]); omega) (show decode (tC tMd_init) 427 = .ok (.newarray .int, 2) by decide +kernel) ?_
  obtain ⟨S256, e257, h⟩ := ob h
  refine v_putX (pc := 429) oF_Md_164 rfl (own_ok (by decide +kernel)) e257 (show decode (tC tMd_init) 429 = .ok (.putfield 164, 3) by decide +kernel) ?_
  refine v_aload_n (pc := 432) (show decode (tC tMd_init) 432 = .ok (.aload_n 0, 1) by decide +kernel) 0 rfl rfl ?_
  refine v_sipush (pc := 433) (v := 128) (show decode (tC tMd_init) 433 = .ok (.sipush 128, 3) by decide +kernel) (by decide) ?_
  obtain ⟨a258, S259, e260, h⟩ := ob2 h
  refine v_mkI (pc := 436) (n := 128) e260 (by decide) (by decide) (by decide) (by rw [hR]; (try simp only [rMd_init]); omega) (by rw [hR]; (try simp only [rMd_init]); omega) (show decode (tC tMd_init) 436 = .ok (.newarray .int, 2) by decide +kernel) ?_
  obtain ⟨S261, e262, h⟩ := ob h
  refine v_putX (pc := 438) oF_Md_167 rfl (own_ok (by decide +kernel)) e262 (show decode (tC tMd_init) 438 = .ok (.putfield 167, 3) by decide +kernel) ?_
  refine v_aload_n (pc := 441) (show decode (tC tMd_init) 441 = .ok (.aload_n 0, 1) by decide +kernel) 0 rfl rfl ?_
  refine v_bipush (pc := 442) (v := 8) (show decode (tC tMd_init) 442 = .ok (.bipush 8, 2) by decide +kernel) (by decide) ?_
  obtain ⟨a263, S264, e265, h⟩ := ob2 h
  refine v_mkZ (pc := 444) (n := 8) e265 (by decide) (by decide) (by decide) (by rw [hR]; (try simp only [rMd_init]); omega) (by rw [hR]; (try simp only [rMd_init]); omega) (show decode (tC tMd_init) 444 = .ok (.newarray .boolean, 2) by decide +kernel) ?_
  obtain ⟨S266, e267, h⟩ := ob h
  refine v_putX (pc := 446) oF_Md_170 rfl (own_ok (by decide +kernel)) e267 (show decode (tC tMd_init) 446 = .ok (.putfield 170, 3) by decide +kernel) ?_
  refine v_aload_n (pc := 449) (show decode (tC tMd_init) 449 = .ok (.aload_n 0, 1) by decide +kernel) 0 rfl rfl ?_
  refine v_bipush (pc := 450) (v := 16) (show decode (tC tMd_init) 450 = .ok (.bipush 16, 2) by decide +kernel) (by decide) ?_
  obtain ⟨a268, S269, e270, h⟩ := ob2 h
  refine v_mkI (pc := 452) (n := 16) e270 (by decide) (by decide) (by decide) (by rw [hR]; (try simp only [rMd_init]); omega) (by rw [hR]; (try simp only [rMd_init]); omega) (show decode (tC tMd_init) 452 = .ok (.newarray .int, 2) by decide +kernel) ?_
  obtain ⟨S271, e272, h⟩ := ob h
  refine v_putX (pc := 454) oF_Md_174 rfl (own_ok (by decide +kernel)) e272 (show decode (tC tMd_init) 454 = .ok (.putfield 174, 3) by decide +kernel) ?_
  refine v_aload_n (pc := 457) (show decode (tC tMd_init) 457 = .ok (.aload_n 0, 1) by decide +kernel) 0 rfl rfl ?_
  refine v_bipush (pc := 458) (v := 16) (show decode (tC tMd_init) 458 = .ok (.bipush 16, 2) by decide +kernel) (by decide) ?_
  obtain ⟨a273, S274, e275, h⟩ := ob2 h
  refine v_mkI (pc := 460) (n := 16) e275 (by decide) (by decide) (by decide) (by rw [hR]; (try simp only [rMd_init]); omega) (by rw [hR]; (try simp only [rMd_init]); omega) (show decode (tC tMd_init) 460 = .ok (.newarray .int, 2) by decide +kernel) ?_
  obtain ⟨S276, e277, h⟩ := ob h
  refine v_putX (pc := 462) oF_Md_177 rfl (own_ok (by decide +kernel)) e277 (show decode (tC tMd_init) 462 = .ok (.putfield 177, 3) by decide +kernel) ?_
  refine v_aload_n (pc := 465) (show decode (tC tMd_init) 465 = .ok (.aload_n 0, 1) by decide +kernel) 0 rfl rfl ?_
  refine v_bipush (pc := 466) (v := 16) (show decode (tC tMd_init) 466 = .ok (.bipush 16, 2) by decide +kernel) (by decide) ?_
  obtain ⟨a278, S279, e280, h⟩ := ob2 h
  refine v_mkZ (pc := 468) (n := 16) e280 (by decide) (by decide) (by decide) (by rw [hR]; (try simp only [rMd_init]); omega) (by rw [hR]; (try simp only [rMd_init]); omega) (show decode (tC tMd_init) 468 = .ok (.newarray .boolean, 2) by decide +kernel) ?_
  obtain ⟨S281, e282, h⟩ := ob h
  refine v_putX (pc := 470) oF_Md_180 rfl (own_ok (by decide +kernel)) e282 (show decode (tC tMd_init) 470 = .ok (.putfield 180, 3) by decide +kernel) ?_
  obtain rfl := Option.some.inj h
  refine v_wide (ce2 := 56) (sl2 := 13303) (by (try simp only [rMd_init]); omega) (by (try simp only [rMd_init]); omega) ?_
  exact v_vret (pc := 473) rfl (show decode (tC tMd_init) 473 = .ok (.return_, 1) by decide +kernel)
theorem cMd_init {l : Launch} (hl : l.flags = pinnedFlags ++ [noTraceFlag]) {D : va_G} {dA : Nat → ClassId} {B : Nat} {x0 : Nat} {S : Sx} {X : Sx} (h : fMd_init x0 S = some X) : Mx l yMd_init tMd_init rMd_init 56 13303 D dA B S [.ref x0] 0 none X :=
  mx_of hl (by decide) rfl rfl (Nat.le_of_ble_eq_true rfl) (fun Γ e1 e2 e3 e4 e5 => by subst e1; subst e3; subst e4; subst e5; exact wMd_init e2 hl x0 S h)
