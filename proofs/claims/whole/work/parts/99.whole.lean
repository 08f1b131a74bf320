/-! THE WHOLE: as the constructors lay it; every call; the claim -/
theorem Iv_0 {o : Nat} {S : Sx} (h : Bd o 951 (fun _ _ => False) (fun _ _ => False) S) : Iv o 0 S := by
  have hL := Ly_bd h
  have z : ∀ c q, c < 951 → ¬ isp c q → V o S c q = 0 := fun c q h1 h2 => h.2.2.2.1 c q h1 h2
  have n : ∀ c q, c < 951 → isp c q → V o S c q = -1 := fun c q h1 h2 => h.2.2.2.2 c q h1 h2 id
  have cz : ∀ (c : Nat) (q : Nat), c < 951 → c ≠ 320 → c ≠ 326 → c ≠ 893 → V o S c q = 0 := fun c q h1 h2 h3 h4 => z c q h1 (by unfold isp; omega)
  have b8 : by8 0 := fun b _ _ => bt_0
  refine ⟨by omega, hL, 0, 0, 0, 0, 0, ⟨⟨by omega, by omega, by omega, by omega, by omega⟩, ⟨cz 2 5 (by omega) (by omega) (by omega) (by omega), z 893 1 (by omega) (by unfold isp; omega)⟩, ⟨cz 2 6 (by omega) (by omega) (by omega) (by omega), z 893 2 (by omega) (by unfold isp; omega)⟩, ⟨cz 2 7 (by omega) (by omega) (by omega) (by omega), z 893 3 (by omega) (by unfold isp; omega)⟩, ⟨cz 2 8 (by omega) (by omega) (by omega) (by omega), z 893 4 (by omega) (by unfold isp; omega)⟩, ⟨cz 2 9 (by omega) (by omega) (by omega) (by omega), z 893 5 (by omega) (by unfold isp; omega)⟩, fun f hf => by omega, fun f hf => by omega, fun f hf => by omega, fun f hf => by omega, fun f hf => by omega⟩, ⟨⟨0, by omega, cz 0 6 (by omega) (by omega) (by omega) (by omega), z 893 47 (by omega) (by unfold isp; omega), fun j hj => by omega⟩, ?_, ?_, ?_, ?_⟩, ⟨?_, ?_, ?_, ?_⟩, Or.inl ⟨z 320 3 (by omega) (by unfold isp; omega), ⟨cz 1 6 (by omega) (by omega) (by omega) (by omega), cz 1 7 (by omega) (by omega) (by omega) (by omega), cz 1 8 (by omega) (by omega) (by omega) (by omega), cz 1 9 (by omega) (by omega) (by omega) (by omega)⟩, ⟨z 893 52 (by omega) (by unfold isp; omega), z 893 53 (by omega) (by unfold isp; omega), z 893 54 (by omega) (by unfold isp; omega), z 893 55 (by omega) (by unfold isp; omega), z 893 56 (by omega) (by unfold isp; omega)⟩, fun s hs => n 326 s (by omega) (by unfold isp; omega), fun q hq => ⟨cz 327 q (by omega) (by omega) (by omega) (by omega), cz 928 q (by omega) (by omega) (by omega) (by omega)⟩, fun t ht => by omega⟩⟩
  · intro i hi; rw [cz 930 i (by omega) (by omega) (by omega) (by omega)]; exact b8
  · intro j hj
    unfold cb mb
    rw [cz 890 _ (by omega) (by omega) (by omega) (by omega), cz 929 _ (by omega) (by omega) (by omega) (by omega), bt_0, bt_0]
  · intro i hi; rw [cz 929 i (by omega) (by omega) (by omega) (by omega)]; exact b8
  · intro q hq
    rw [cz 888 q (by omega) (by omega) (by omega) (by omega), z 893 (48 + q) (by omega) (by unfold isp; omega)]
  · rw [z 320 3 (by omega) (by unfold isp; omega), z 893 7 (by omega) (by unfold isp; omega)]
  · rw [z 320 5 (by omega) (by unfold isp; omega), z 893 33 (by omega) (by unfold isp; omega)]
  · rw [n 320 6 (by omega) (by unfold isp; omega), n 893 34 (by omega) (by unfold isp; omega)]
  · exact cz 322 0 (by omega) (by omega) (by omega) (by omega)
theorem all_Iv {o k : Nat} (hk : k < 512) : all_st (Iv o k) (Iv o (k + 1)) o (o + 893) (o + 950) :=
  ⟨fun S h => Iv_up h hk, s_clear hk, s_field hk, s_state hk, s_choice hk, s_otherwise hk, s_action hk, s_doing hk, s_table hk, s_apply hk, s_test hk, s_lay hk, s_fault hk, s_stage hk, s_feed hk, s_end hk, s_packet hk, s_key hk, s_insert hk, s_remove hk, s_run hk, s_out hk, s_byteAt hk, s_word hk, s_entries hk, s_count hk⟩
theorem pure_all : pure_law := by
  refine pure_of fun Z => ?_
  obtain ⟨S2, S5, S7, S10, S12, e1, e2, e3, e4, e5, e6⟩ := ctor_all Z
  exact ⟨Z, Z + 893, Z + 950, S2, S5, S7, S10, S12, Iv Z, e1, e2, e3, e4, e5, Iv_0 e6, fun k hk => all_Iv hk⟩
theorem i_vc : Claimed_1_1 ∧ Claimed_1_2 := i_vc_open pure_all
