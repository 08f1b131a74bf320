/-! THE LAW'S LOOP: what each call must do, and that the law answers 1 then -/
/-- a call that may throw: the wrapper's number is the reference's 'thrown', an answer is the reference's; I holds again -/
def stT (I I' : Sx → Prop) (m out : Nat) (F G : Sx → Option (Int32 × Sx)) : Prop := ∀ S, I S → ∃ r S1 b S2, F S = some (r, S1) ∧ kdOf S1 m = some 12 ∧ G S1 = some (b, S2) ∧ kdOf S2 m = some 12 ∧ sI S2 m 0 = r ∧ (r = 0 → aJ S2 out 0 = some (Int32.toInt64 b)) ∧ I' S2
def stV (I I' : Sx → Prop) (m : Nat) (F : Sx → Option (Int32 × Sx)) (G : Sx → Option Sx) : Prop := ∀ S, I S → ∃ r S1 S2, F S = some (r, S1) ∧ kdOf S1 m = some 12 ∧ G S1 = some S2 ∧ kdOf S2 m = some 12 ∧ sI S2 m 0 = r ∧ I' S2
def stI (I I' : Sx → Prop) (x m : Nat) (F G : Sx → Option (Int32 × Sx)) : Prop := ∀ S, I S → ∃ r S1 S2, kdOf S x = some 0 ∧ F S = some (r, S1) ∧ kdOf S1 m = some 12 ∧ G S1 = some (r, S2) ∧ I' S2
def stU (I I' : Sx → Prop) (x m : Nat) (F G : Sx → Option Sx) : Prop := ∀ S, I S → ∃ S1 S2, kdOf S x = some 0 ∧ F S = some S1 ∧ kdOf S1 m = some 12 ∧ G S1 = some S2 ∧ I' S2
theorem ckd_ok {S : Sx} {a kd : Nat} (h : kdOf S a = some kd) : ckd S a kd = some () := if_pos h
theorem thrown_ok {S : Sx} {m : Nat} (h : kdOf S m = some 12) : fMd_thrown m S = some (sI S m 0, S) := by
  unfold fMd_thrown gI
  rw [if_pos h]
  rfl
theorem bd2_some {α β : Type} {o : Option (α × Sx)} {r : α} {S : Sx} {f : α → Sx → Option β} (h : o = some (r, S)) : bd2 o f = f r S := by rw [h]; rfl
theorem bind_ok {α β : Type} {o : Option α} {r : α} {f : α → Option β} (h : o = some r) : o.bind f = f r := by rw [h]; rfl
theorem cmp_self (x : Int64) : lg_cmp x x = 0 := by
  unfold lg_cmp
  rw [if_neg (by simp [Int64.lt_iff_toInt_lt]), if_pos rfl]
def q_clear (I I' : Sx → Prop) (x1 x2 x3 : Nat) : Prop := stU I I' x1 x2 (fun S => fMp_clear x1 S) (fun S => fMd_clear x2 S)
def q_field (I I' : Sx → Prop) (x1 x2 x3 : Nat) : Prop := ∀ p0 : Int32, stT I I' x2 x3 (fun S => fLw_field x1 p0 x3 S) (fun S => fMd_field x2 p0 S)
def q_state (I I' : Sx → Prop) (x1 x2 x3 : Nat) : Prop := ∀ p0 p1 p2 p3 p4 : Int32, stT I I' x2 x3 (fun S => fLw_state x1 p0 p1 p2 p3 p4 x3 S) (fun S => fMd_state x2 p0 p1 p2 p3 p4 S)
def q_choice (I I' : Sx → Prop) (x1 x2 x3 : Nat) : Prop := ∀ p0 p1 p2 p3 : Int32, stV I I' x2 (fun S => fLw_choice x1 p0 p1 p2 p3 S) (fun S => fMd_choice x2 p0 p1 p2 p3 S)
def q_otherwise (I I' : Sx → Prop) (x1 x2 x3 : Nat) : Prop := ∀ p0 p1 : Int32, stV I I' x2 (fun S => fLw_otherwise x1 p0 p1 S) (fun S => fMd_otherwise x2 p0 p1 S)
def q_action (I I' : Sx → Prop) (x1 x2 x3 : Nat) : Prop := stT I I' x2 x3 (fun S => fLw_action x1 x3 S) (fun S => fMd_action x2 S)
def q_doing (I I' : Sx → Prop) (x1 x2 x3 : Nat) : Prop := ∀ p0 p1 p2 p3 p4 : Int32, stV I I' x2 (fun S => fLw_doing x1 p0 p1 p2 p3 p4 S) (fun S => fMd_doing x2 p0 p1 p2 p3 p4 S)
def q_table (I I' : Sx → Prop) (x1 x2 x3 : Nat) : Prop := ∀ p0 p1 p2 p3 p4 : Int32, stT I I' x2 x3 (fun S => fLw_table x1 p0 p1 p2 p3 p4 x3 S) (fun S => fMd_table x2 p0 p1 p2 p3 p4 S)
def q_apply (I I' : Sx → Prop) (x1 x2 x3 : Nat) : Prop := ∀ p0 : Int32, stT I I' x2 x3 (fun S => fLw_apply x1 p0 x3 S) (fun S => fMd_apply x2 p0 S)
def q_test (I I' : Sx → Prop) (x1 x2 x3 : Nat) : Prop := ∀ p0 p1 p2 p3 : Int32, stT I I' x2 x3 (fun S => fLw_test x1 p0 p1 p2 p3 x3 S) (fun S => fMd_test x2 p0 p1 p2 p3 S)
def q_lay (I I' : Sx → Prop) (x1 x2 x3 : Nat) : Prop := stT I I' x2 x3 (fun S => fLw_lay x1 x3 S) (fun S => fMd_lay x2 S)
def q_fault (I I' : Sx → Prop) (x1 x2 x3 : Nat) : Prop := ∀ p0 : Int32, stI I I' x1 x2 (fun S => fMp_fault x1 p0 S) (fun S => fMd_fault x2 p0 S)
def q_stage (I I' : Sx → Prop) (x1 x2 x3 : Nat) : Prop := ∀ p0 : Int32, stI I I' x1 x2 (fun S => fMp_stage x1 p0 S) (fun S => fMd_stage x2 p0 S)
def q_feed (I I' : Sx → Prop) (x1 x2 x3 : Nat) : Prop := ∀ p0 p1 p2 p3 p4 : Int32, stU I I' x1 x2 (fun S => fMp_feed x1 p0 p1 p2 p3 p4 S) (fun S => fMd_feed x2 p0 p1 p2 p3 p4 S)
def q_end (I I' : Sx → Prop) (x1 x2 x3 : Nat) : Prop := ∀ p0 : Int32, stI I I' x1 x2 (fun S => fMp_end x1 p0 S) (fun S => fMd_end x2 p0 S)
def q_packet (I I' : Sx → Prop) (x1 x2 x3 : Nat) : Prop := stT I I' x2 x3 (fun S => fLw_packet x1 x3 S) (fun S => fMd_packet x2 S)
def q_key (I I' : Sx → Prop) (x1 x2 x3 : Nat) : Prop := ∀ p0 p1 p2 p3 : Int32, stU I I' x1 x2 (fun S => fMp_key x1 p0 p1 p2 p3 S) (fun S => fMd_key x2 p0 p1 p2 p3 S)
def q_insert (I I' : Sx → Prop) (x1 x2 x3 : Nat) : Prop := ∀ p0 p1 p2 p3 p4 : Int32, stT I I' x2 x3 (fun S => fLw_insert x1 p0 p1 p2 p3 p4 x3 S) (fun S => fMd_insert x2 p0 p1 p2 p3 p4 S)
def q_remove (I I' : Sx → Prop) (x1 x2 x3 : Nat) : Prop := ∀ p0 : Int32, stT I I' x2 x3 (fun S => fLw_remove x1 p0 x3 S) (fun S => fMd_remove x2 p0 S)
def q_run (I I' : Sx → Prop) (x1 x2 x3 : Nat) : Prop := ∀ p0 : Int32, stT I I' x2 x3 (fun S => fLw_run x1 p0 x3 S) (fun S => fMd_run x2 p0 S)
def q_out (I I' : Sx → Prop) (x1 x2 x3 : Nat) : Prop := ∀ p0 p1 : Int32, stI I I' x1 x2 (fun S => fMp_out x1 p0 p1 S) (fun S => fMd_out x2 p0 p1 S)
def q_byteAt (I I' : Sx → Prop) (x1 x2 x3 : Nat) : Prop := ∀ p0 p1 : Int32, stI I I' x1 x2 (fun S => fMp_byteAt x1 p0 p1 S) (fun S => fMd_byteAt x2 p0 p1 S)
def q_word (I I' : Sx → Prop) (x1 x2 x3 : Nat) : Prop := ∀ p0 p1 : Int32, stT I I' x2 x3 (fun S => fLw_word x1 p0 p1 x3 S) (fun S => fMd_word x2 p0 p1 S)
def q_entries (I I' : Sx → Prop) (x1 x2 x3 : Nat) : Prop := ∀ p0 : Int32, stT I I' x2 x3 (fun S => fLw_entries x1 p0 x3 S) (fun S => fMd_entries x2 p0 S)
def q_count (I I' : Sx → Prop) (x1 x2 x3 : Nat) : Prop := ∀ p0 : Int32, stI I I' x1 x2 (fun S => fMp_count x1 p0 S) (fun S => fMd_count x2 p0 S)
def all_st (I I' : Sx → Prop) (x1 x2 x3 : Nat) : Prop := (∀ S, I S → I' S) ∧ q_clear I I' x1 x2 x3 ∧ q_field I I' x1 x2 x3 ∧ q_state I I' x1 x2 x3 ∧ q_choice I I' x1 x2 x3 ∧ q_otherwise I I' x1 x2 x3 ∧ q_action I I' x1 x2 x3 ∧ q_doing I I' x1 x2 x3 ∧ q_table I I' x1 x2 x3 ∧ q_apply I I' x1 x2 x3 ∧ q_test I I' x1 x2 x3 ∧ q_lay I I' x1 x2 x3 ∧ q_fault I I' x1 x2 x3 ∧ q_stage I I' x1 x2 x3 ∧ q_feed I I' x1 x2 x3 ∧ q_end I I' x1 x2 x3 ∧ q_packet I I' x1 x2 x3 ∧ q_key I I' x1 x2 x3 ∧ q_insert I I' x1 x2 x3 ∧ q_remove I I' x1 x2 x3 ∧ q_run I I' x1 x2 x3 ∧ q_out I I' x1 x2 x3 ∧ q_byteAt I I' x1 x2 x3 ∧ q_word I I' x1 x2 x3 ∧ q_entries I I' x1 x2 x3 ∧ q_count I I' x1 x2 x3
theorem sc_ok {Ln i : Nat} (xs : Nat → Int32) (hL : Ln ≤ 3072) (h : i < Ln) : scI Ln xs (nI i) = some (xs i) := by
  have hc : (nI i).toNatClampNeg = i := nI_clamp (by omega)
  unfold scI
  rw [if_pos (by
    simp only [vin, Bool.and_eq_true, Bool.not_eq_true', decide_eq_false_iff_not, decide_eq_true_eq]
    exact ⟨nI_pos (by omega), by rw [hc]; exact h⟩), hc]
set_option maxHeartbeats 4000000 in
set_option maxRecDepth 100000 in
theorem law_all {I : Nat → Sx → Prop} {x1 x2 x3 : Nat} (hst : ∀ k, k < 512 → all_st (I k) (I (k + 1)) x1 x2 x3) {Ln : Nat} {xs : Nat → Int32} (hL : Ln ≤ 3072) : ∀ (n i k : Nat) (S : Sx), Ln < i + 6 * n → i ≤ Ln → i = 6 * k → I k S → ∃ S', fLw_law_23 Ln xs n x1 x2 x3 (nI i) S = some (1, S') := by
  intro n
  induction n with
  | zero => intro i k S h1 h2; omega
  | succ n ih =>
    intro i k S hn hi hik hI
    rw [fLw_law_23]
    by_cases hlt : (nI Ln) - 6 < nI i
    · rw [if_pos hlt]; exact ⟨S, rfl⟩
    rw [if_neg hlt]
    have hle : i + 6 ≤ Ln := by
      rcases Nat.lt_or_ge Ln (i + 6) with h9 | h9
      · exfalso
        apply hlt
        rw [Int32.lt_iff_toInt_lt]
        have e1 : (nI Ln - 6).toInt = (Ln : Int) - 6 := pk_sub_toInt (a := Ln) (b := 6) (by omega) (by omega)
        rw [e1, nI_toInt (by omega)]
        omega
      · exact h9
    obtain ⟨h_mono, h_clear, h_field, h_state, h_choice, h_otherwise, h_action, h_doing, h_table, h_apply, h_test, h_lay, h_fault, h_stage, h_feed, h_end, h_packet, h_key, h_insert, h_remove, h_run, h_out, h_byteAt, h_word, h_entries, h_count⟩ := hst k (by omega)
    have e0 : scI Ln xs (nI i) = some (xs i) := sc_ok xs hL (by omega)
    have e1 : scI Ln xs (nI i + 1) = some (xs (i + 1)) := by rw [show nI i + 1 = nI (i + 1) from nI_add i 1]; exact sc_ok xs hL (by omega)
    have e2 : scI Ln xs (nI i + 2) = some (xs (i + 2)) := by rw [show nI i + 2 = nI (i + 2) from nI_add i 2]; exact sc_ok xs hL (by omega)
    have e3 : scI Ln xs (nI i + 3) = some (xs (i + 3)) := by rw [show nI i + 3 = nI (i + 3) from nI_add i 3]; exact sc_ok xs hL (by omega)
    have e4 : scI Ln xs (nI i + 4) = some (xs (i + 4)) := by rw [show nI i + 4 = nI (i + 4) from nI_add i 4]; exact sc_ok xs hL (by omega)
    have e5 : scI Ln xs (nI i + 5) = some (xs (i + 5)) := by rw [show nI i + 5 = nI (i + 5) from nI_add i 5]; exact sc_ok xs hL (by omega)
    have e6 : nI i + 6 = nI (i + 6) := nI_add i 6
    have go : ∀ S', I (k + 1) S' → ∃ S'', fLw_law_23 Ln xs n x1 x2 x3 (nI i + 6) S' = some (1, S'') := by
      intro S' hI'
      rw [e6]
      exact ih (i + 6) (k + 1) S' (by omega) hle (by omega) hI'
    rw [bind_ok e0]
    by_cases c0 : (xs i &&& 31) = 0
    · rw [if_pos c0]
      obtain ⟨S1, S2, f0, f1, f2, f3, f4⟩ := h_clear  S hI
      rw [bind_ok (ckd_ok f0), bind_ok f1, bind_ok (ckd_ok f2), bind_ok f3]
      exact go S2 f4
    rw [if_neg c0]
    by_cases c1 : (xs i &&& 31) = 1
    · rw [if_pos c1]
      obtain ⟨r, S1, b, S2, f1, f2, f3, f4, f5, f6, f7⟩ := h_field (xs (i + 1)) S hI
      rw [bind_ok e1, bd2_some f1, bind_ok e1, bind_ok (ckd_ok f2), bd2_some f3, bind_ok (ckd_ok f4), bd2_some (thrown_ok f4), if_pos f5]
      by_cases hr : r = 0
      · rw [if_pos hr, bind_ok (f6 hr), if_pos (cmp_self _)]; exact go S2 f7
      · rw [if_neg hr]; exact go S2 f7
    rw [if_neg c1]
    by_cases c2 : (xs i &&& 31) = 2
    · rw [if_pos c2]
      obtain ⟨r, S1, b, S2, f1, f2, f3, f4, f5, f6, f7⟩ := h_state (xs (i + 1)) (xs (i + 2)) (xs (i + 3)) (xs (i + 4)) (xs (i + 5)) S hI
      rw [bind_ok e1, bind_ok e2, bind_ok e3, bind_ok e4, bind_ok e5, bd2_some f1, bind_ok e1, bind_ok e2, bind_ok e3, bind_ok e4, bind_ok e5, bind_ok (ckd_ok f2), bd2_some f3, bind_ok (ckd_ok f4), bd2_some (thrown_ok f4), if_pos f5]
      by_cases hr : r = 0
      · rw [if_pos hr, bind_ok (f6 hr), if_pos (cmp_self _)]; exact go S2 f7
      · rw [if_neg hr]; exact go S2 f7
    rw [if_neg c2]
    by_cases c3 : (xs i &&& 31) = 3
    · rw [if_pos c3]
      obtain ⟨r, S1, S2, f1, f2, f3, f4, f5, f6⟩ := h_choice (xs (i + 1)) (xs (i + 2)) (xs (i + 3)) (xs (i + 4)) S hI
      rw [bind_ok e1, bind_ok e2, bind_ok e3, bind_ok e4, bd2_some f1, bind_ok e1, bind_ok e2, bind_ok e3, bind_ok e4, bind_ok (ckd_ok f2), bind_ok f3, bind_ok (ckd_ok f4), bd2_some (thrown_ok f4), if_pos f5]
      exact go S2 f6
    rw [if_neg c3]
    by_cases c4 : (xs i &&& 31) = 4
    · rw [if_pos c4]
      obtain ⟨r, S1, S2, f1, f2, f3, f4, f5, f6⟩ := h_otherwise (xs (i + 1)) (xs (i + 2)) S hI
      rw [bind_ok e1, bind_ok e2, bd2_some f1, bind_ok e1, bind_ok e2, bind_ok (ckd_ok f2), bind_ok f3, bind_ok (ckd_ok f4), bd2_some (thrown_ok f4), if_pos f5]
      exact go S2 f6
    rw [if_neg c4]
    by_cases c5 : (xs i &&& 31) = 5
    · rw [if_pos c5]
      obtain ⟨r, S1, b, S2, f1, f2, f3, f4, f5, f6, f7⟩ := h_action  S hI
      rw [bd2_some f1, bind_ok (ckd_ok f2), bd2_some f3, bind_ok (ckd_ok f4), bd2_some (thrown_ok f4), if_pos f5]
      by_cases hr : r = 0
      · rw [if_pos hr, bind_ok (f6 hr), if_pos (cmp_self _)]; exact go S2 f7
      · rw [if_neg hr]; exact go S2 f7
    rw [if_neg c5]
    by_cases c6 : (xs i &&& 31) = 6
    · rw [if_pos c6]
      obtain ⟨r, S1, S2, f1, f2, f3, f4, f5, f6⟩ := h_doing (xs (i + 1)) (xs (i + 2)) (xs (i + 3)) (xs (i + 4)) (xs (i + 5)) S hI
      rw [bind_ok e1, bind_ok e2, bind_ok e3, bind_ok e4, bind_ok e5, bd2_some f1, bind_ok e1, bind_ok e2, bind_ok e3, bind_ok e4, bind_ok e5, bind_ok (ckd_ok f2), bind_ok f3, bind_ok (ckd_ok f4), bd2_some (thrown_ok f4), if_pos f5]
      exact go S2 f6
    rw [if_neg c6]
    by_cases c7 : (xs i &&& 31) = 7
    · rw [if_pos c7]
      obtain ⟨r, S1, b, S2, f1, f2, f3, f4, f5, f6, f7⟩ := h_table (xs (i + 1)) (xs (i + 2)) (xs (i + 3)) (xs (i + 4)) (xs (i + 5)) S hI
      rw [bind_ok e1, bind_ok e2, bind_ok e3, bind_ok e4, bind_ok e5, bd2_some f1, bind_ok e1, bind_ok e2, bind_ok e3, bind_ok e4, bind_ok e5, bind_ok (ckd_ok f2), bd2_some f3, bind_ok (ckd_ok f4), bd2_some (thrown_ok f4), if_pos f5]
      by_cases hr : r = 0
      · rw [if_pos hr, bind_ok (f6 hr), if_pos (cmp_self _)]; exact go S2 f7
      · rw [if_neg hr]; exact go S2 f7
    rw [if_neg c7]
    by_cases c8 : (xs i &&& 31) = 8
    · rw [if_pos c8]
      obtain ⟨r, S1, b, S2, f1, f2, f3, f4, f5, f6, f7⟩ := h_apply (xs (i + 1)) S hI
      rw [bind_ok e1, bd2_some f1, bind_ok e1, bind_ok (ckd_ok f2), bd2_some f3, bind_ok (ckd_ok f4), bd2_some (thrown_ok f4), if_pos f5]
      by_cases hr : r = 0
      · rw [if_pos hr, bind_ok (f6 hr), if_pos (cmp_self _)]; exact go S2 f7
      · rw [if_neg hr]; exact go S2 f7
    rw [if_neg c8]
    by_cases c9 : (xs i &&& 31) = 9
    · rw [if_pos c9]
      obtain ⟨r, S1, b, S2, f1, f2, f3, f4, f5, f6, f7⟩ := h_test (xs (i + 1)) (xs (i + 2)) (xs (i + 3)) (xs (i + 4)) S hI
      rw [bind_ok e1, bind_ok e2, bind_ok e3, bind_ok e4, bd2_some f1, bind_ok e1, bind_ok e2, bind_ok e3, bind_ok e4, bind_ok (ckd_ok f2), bd2_some f3, bind_ok (ckd_ok f4), bd2_some (thrown_ok f4), if_pos f5]
      by_cases hr : r = 0
      · rw [if_pos hr, bind_ok (f6 hr), if_pos (cmp_self _)]; exact go S2 f7
      · rw [if_neg hr]; exact go S2 f7
    rw [if_neg c9]
    by_cases c10 : (xs i &&& 31) = 10
    · rw [if_pos c10]
      obtain ⟨r, S1, b, S2, f1, f2, f3, f4, f5, f6, f7⟩ := h_lay  S hI
      rw [bd2_some f1, bind_ok (ckd_ok f2), bd2_some f3, bind_ok (ckd_ok f4), bd2_some (thrown_ok f4), if_pos f5]
      by_cases hr : r = 0
      · rw [if_pos hr, bind_ok (f6 hr), if_pos (cmp_self _)]; exact go S2 f7
      · rw [if_neg hr]; exact go S2 f7
    rw [if_neg c10]
    by_cases c11 : (xs i &&& 31) = 11
    · rw [if_pos c11]
      obtain ⟨r, S1, S2, f0, f1, f2, f3, f4⟩ := h_fault (xs (i + 1)) S hI
      rw [bind_ok e1, bind_ok (ckd_ok f0), bd2_some f1, bind_ok e1, bind_ok (ckd_ok f2), bd2_some f3, if_pos rfl]
      exact go S2 f4
    rw [if_neg c11]
    by_cases c12 : (xs i &&& 31) = 12
    · rw [if_pos c12]
      obtain ⟨r, S1, S2, f0, f1, f2, f3, f4⟩ := h_stage (xs (i + 1)) S hI
      rw [bind_ok e1, bind_ok (ckd_ok f0), bd2_some f1, bind_ok e1, bind_ok (ckd_ok f2), bd2_some f3, if_pos rfl]
      exact go S2 f4
    rw [if_neg c12]
    by_cases c13 : (xs i &&& 31) = 13
    · rw [if_pos c13]
      obtain ⟨S1, S2, f0, f1, f2, f3, f4⟩ := h_feed (xs (i + 1)) (xs (i + 2)) (xs (i + 3)) (xs (i + 4)) (xs (i + 5)) S hI
      rw [bind_ok e1, bind_ok e2, bind_ok e3, bind_ok e4, bind_ok e5, bind_ok (ckd_ok f0), bind_ok f1, bind_ok e1, bind_ok e2, bind_ok e3, bind_ok e4, bind_ok e5, bind_ok (ckd_ok f2), bind_ok f3]
      exact go S2 f4
    rw [if_neg c13]
    by_cases c14 : (xs i &&& 31) = 14
    · rw [if_pos c14]
      obtain ⟨r, S1, S2, f0, f1, f2, f3, f4⟩ := h_end (xs (i + 1)) S hI
      rw [bind_ok e1, bind_ok (ckd_ok f0), bd2_some f1, bind_ok e1, bind_ok (ckd_ok f2), bd2_some f3, if_pos rfl]
      exact go S2 f4
    rw [if_neg c14]
    by_cases c15 : (xs i &&& 31) = 15
    · rw [if_pos c15]
      obtain ⟨r, S1, b, S2, f1, f2, f3, f4, f5, f6, f7⟩ := h_packet  S hI
      rw [bd2_some f1, bind_ok (ckd_ok f2), bd2_some f3, bind_ok (ckd_ok f4), bd2_some (thrown_ok f4), if_pos f5]
      by_cases hr : r = 0
      · rw [if_pos hr, bind_ok (f6 hr), if_pos (cmp_self _)]; exact go S2 f7
      · rw [if_neg hr]; exact go S2 f7
    rw [if_neg c15]
    by_cases c16 : (xs i &&& 31) = 16
    · rw [if_pos c16]
      obtain ⟨S1, S2, f0, f1, f2, f3, f4⟩ := h_key (xs (i + 1)) (xs (i + 2)) (xs (i + 3)) (xs (i + 4)) S hI
      rw [bind_ok e1, bind_ok e2, bind_ok e3, bind_ok e4, bind_ok (ckd_ok f0), bind_ok f1, bind_ok e1, bind_ok e2, bind_ok e3, bind_ok e4, bind_ok (ckd_ok f2), bind_ok f3]
      exact go S2 f4
    rw [if_neg c16]
    by_cases c17 : (xs i &&& 31) = 17
    · rw [if_pos c17]
      obtain ⟨r, S1, b, S2, f1, f2, f3, f4, f5, f6, f7⟩ := h_insert (xs (i + 1)) (xs (i + 2)) (xs (i + 3)) (xs (i + 4)) (xs (i + 5)) S hI
      rw [bind_ok e1, bind_ok e2, bind_ok e3, bind_ok e4, bind_ok e5, bd2_some f1, bind_ok e1, bind_ok e2, bind_ok e3, bind_ok e4, bind_ok e5, bind_ok (ckd_ok f2), bd2_some f3, bind_ok (ckd_ok f4), bd2_some (thrown_ok f4), if_pos f5]
      by_cases hr : r = 0
      · rw [if_pos hr, bind_ok (f6 hr), if_pos (cmp_self _)]; exact go S2 f7
      · rw [if_neg hr]; exact go S2 f7
    rw [if_neg c17]
    by_cases c18 : (xs i &&& 31) = 18
    · rw [if_pos c18]
      obtain ⟨r, S1, b, S2, f1, f2, f3, f4, f5, f6, f7⟩ := h_remove (xs (i + 1)) S hI
      rw [bind_ok e1, bd2_some f1, bind_ok e1, bind_ok (ckd_ok f2), bd2_some f3, bind_ok (ckd_ok f4), bd2_some (thrown_ok f4), if_pos f5]
      by_cases hr : r = 0
      · rw [if_pos hr, bind_ok (f6 hr), if_pos (cmp_self _)]; exact go S2 f7
      · rw [if_neg hr]; exact go S2 f7
    rw [if_neg c18]
    by_cases c19 : (xs i &&& 31) = 19
    · rw [if_pos c19]
      obtain ⟨r, S1, b, S2, f1, f2, f3, f4, f5, f6, f7⟩ := h_run (xs (i + 1)) S hI
      rw [bind_ok e1, bd2_some f1, bind_ok e1, bind_ok (ckd_ok f2), bd2_some f3, bind_ok (ckd_ok f4), bd2_some (thrown_ok f4), if_pos f5]
      by_cases hr : r = 0
      · rw [if_pos hr, bind_ok (f6 hr), if_pos (cmp_self _)]; exact go S2 f7
      · rw [if_neg hr]; exact go S2 f7
    rw [if_neg c19]
    by_cases c20 : (xs i &&& 31) = 20
    · rw [if_pos c20]
      obtain ⟨r, S1, S2, f0, f1, f2, f3, f4⟩ := h_out (xs (i + 1)) (xs (i + 2)) S hI
      rw [bind_ok e1, bind_ok e2, bind_ok (ckd_ok f0), bd2_some f1, bind_ok e1, bind_ok e2, bind_ok (ckd_ok f2), bd2_some f3, if_pos rfl]
      exact go S2 f4
    rw [if_neg c20]
    by_cases c21 : (xs i &&& 31) = 21
    · rw [if_pos c21]
      obtain ⟨r, S1, S2, f0, f1, f2, f3, f4⟩ := h_byteAt (xs (i + 1)) (xs (i + 2)) S hI
      rw [bind_ok e1, bind_ok e2, bind_ok (ckd_ok f0), bd2_some f1, bind_ok e1, bind_ok e2, bind_ok (ckd_ok f2), bd2_some f3, if_pos rfl]
      exact go S2 f4
    rw [if_neg c21]
    by_cases c22 : (xs i &&& 31) = 22
    · rw [if_pos c22]
      obtain ⟨r, S1, b, S2, f1, f2, f3, f4, f5, f6, f7⟩ := h_word (xs (i + 1)) (xs (i + 2)) S hI
      rw [bind_ok e1, bind_ok e2, bd2_some f1, bind_ok e1, bind_ok e2, bind_ok (ckd_ok f2), bd2_some f3, bind_ok (ckd_ok f4), bd2_some (thrown_ok f4), if_pos f5]
      by_cases hr : r = 0
      · rw [if_pos hr, bind_ok (f6 hr), if_pos (cmp_self _)]; exact go S2 f7
      · rw [if_neg hr]; exact go S2 f7
    rw [if_neg c22]
    by_cases c23 : (xs i &&& 31) = 23
    · rw [if_pos c23]
      obtain ⟨r, S1, b, S2, f1, f2, f3, f4, f5, f6, f7⟩ := h_entries (xs (i + 1)) S hI
      rw [bind_ok e1, bd2_some f1, bind_ok e1, bind_ok (ckd_ok f2), bd2_some f3, bind_ok (ckd_ok f4), bd2_some (thrown_ok f4), if_pos f5]
      by_cases hr : r = 0
      · rw [if_pos hr, bind_ok (f6 hr), if_pos (cmp_self _)]; exact go S2 f7
      · rw [if_neg hr]; exact go S2 f7
    rw [if_neg c23]
    by_cases c24 : (xs i &&& 31) = 24
    · rw [if_pos c24]
      obtain ⟨r, S1, S2, f0, f1, f2, f3, f4⟩ := h_count (xs (i + 1)) S hI
      rw [bind_ok e1, bind_ok (ckd_ok f0), bd2_some f1, bind_ok e1, bind_ok (ckd_ok f2), bd2_some f3, if_pos rfl]
      exact go S2 f4
    rw [if_neg c24]
    exact go S (h_mono S hI)
/-- THE PURE SENTENCE out of: the constructors come to a memory where I holds; each of the 25 calls keeps I and answers alike -/
theorem pure_of (h : ∀ Z : Nat, ∃ (a1 a6 a11 : Nat) (S2 S5 S7 S10 S12 : Sx) (I : Nat → Sx → Prop), mk (S_0 Z) 0 7 = some (a1, S2) ∧ fMp_init a1 S2 = some S5 ∧ mk S5 12 80 = some (a6, S7) ∧ fMd_init a6 S7 = some S10 ∧ mk S10 102 1 = some (a11, S12) ∧ I 0 S12 ∧ ∀ k, k < 512 → all_st (I k) (I (k + 1)) a1 a6 a11) : pure_law := by
  intro Ln xs Z hL
  obtain ⟨a1, a6, a11, S2, S5, S7, S10, S12, I, h1, h2, h3, h4, h5, h6, h7⟩ := h Z
  obtain ⟨S', hS'⟩ := law_all h7 hL (xs := xs) 513 0 0 S12 (by omega) (by omega) rfl h6
  refine ⟨S', ?_⟩
  unfold fLw_law
  rw [bd2_some h1, bind_ok h2, bd2_some h3, bind_ok h4, bd2_some h5]
  exact hS'
