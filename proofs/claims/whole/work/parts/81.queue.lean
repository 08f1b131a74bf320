/-! THE QUEUE: what is in line, in the stages and out -/
/-- what the reference told of a packet whose run ended in R -/
def toldR (vc vm : Nat → Nat → Int32) (wd od : Nat → Nat) (tkn m pl : Nat) (R : HS) : Prop := (R.dr = 1 ∧ vm 941 pl = 1 ∧ vm 942 pl = -1 ∧ vm 943 pl = -1) ∨ (R.dr = 0 ∧ vm 941 pl = 0 ∧ vm 942 pl = R.po ∧ vm 943 pl = nI m ∧ (∀ j, j < 8 * m → mb vm 944 (60 * pl) j = pbits wd od R.w (cb vc (331 + 4 * pl)) tkn j) ∧ ∀ i, i < m → by8 (vm 944 (60 * pl + i)))
/-- arrays as operation n sees them once wk stages are behind it -/
def Wx (sa : Nat → Nat) (Wn : Nat → Nat → Int32) (n wk : Nat) : Nat → Int32 := fun j => if sa (j / 16) < wk then Wn (n + 1) j else Wn n j
def hsC (vc : Nat → Nat → Int32) (h : Nat) (ar : Nat → Int32) : HS := (vc (841 + 3 * h), vc (840 + 3 * h) 6, vc (840 + 3 * h) 7, ar)
def pktR (vc vm : Nat → Nat → Int32) (nf np : Nat) (fs sa : Nat → Nat) (Tn : Nat → Nat → TC) (Wn : Nat → Nat → Int32) (n wk : Nat) : Prop :=
  ∃ (nx m tkn : Nat) (od : Nat → Nat), nx ≤ np ∧ vc (840 + 3 * (n % 16)) 5 = nI nx ∧ m ≤ 60 ∧ vc (328 + 4 * (n % 128)) 2 = nI m ∧ tkn ≤ 16 ∧ vc (840 + 3 * (n % 16)) 2 = nI tkn ∧ (∀ i, i < tkn → vc (842 + 3 * (n % 16)) i = nI (od i) ∧ od i < nf) ∧ offs (wdv vc) od tkn ≤ 8 * m ∧ (vc (840 + 3 * (n % 16)) 7 = 0 ∨ vc (840 + 3 * (n % 16)) 7 = 1) ∧
    (∀ j, j < 64 → (runS vc (Tn n) (np - fs wk) (fs wk) (hsC vc (n % 16) (Wx sa Wn n wk), nx)).1.ar j = Wn (n + 1) j) ∧ toldR vc vm (wdv vc) od tkn m (n % 128) (runS vc (Tn n) (np - fs wk) (fs wk) (hsC vc (n % 16) (Wx sa Wn n wk), nx)).1
/-- an entry that comes (1) or goes: how it ends, and the table then -/
noncomputable def chg (vc : Nat → Nat → Int32) (t : Nat) (kd : Int32) (e : Nat → Int32) (T : TC) : Int32 × TC :=
  if kd = 1 then (@ite _ (okIn (vc (128 + 22 * t) 4) (vc (128 + 22 * t) 7) (vc (128 + 22 * t) 3) (vc (128 + 22 * t) 6) (vc (128 + 22 * t) 8) T (ctE (vc (128 + 22 * t) 3) (vc (128 + 22 * t) 6) e)) (Classical.propDecidable _) ((0, insT T (ctE (vc (128 + 22 * t) 3) (vc (128 + 22 * t) 6) e))) ((1, T)))
  else match fnd T (ctE (vc (128 + 22 * t) 3) (vc (128 + 22 * t) 6) e) T.1 0 with | none => (1, T) | some i => (0, remT T i)
def entR (vc vm : Nat → Nat → Int32) (nt : Nat) (ta : Nat → Nat) (Tn : Nat → Nat → TC) (n wk : Nat) : Prop :=
  ∃ t, t < nt ∧ vc (328 + 4 * (n % 128)) 4 = nI t ∧ (∀ t', t' ≠ t → Tn (n + 1) t' = Tn n t') ∧ ((ta t < wk ∧ vc (328 + 4 * (n % 128)) 5 = vm 941 (n % 128)) ∨ (wk ≤ ta t ∧ (vm 941 (n % 128), Tn (n + 1) t) = chg vc t (vm 940 (n % 128)) (vc (329 + 4 * (n % 128))) (Tn n t)))
/-- operation n is in the stages, wk of them behind it -/
def flyR (vc vm : Nat → Nat → Int32) (nf nt np : Nat) (fs ta sa : Nat → Nat) (Tn : Nat → Nat → TC) (Wn : Nat → Nat → Int32) (n wk : Nat) : Prop :=
  vc (328 + 4 * (n % 128)) 3 = vm 940 (n % 128) ∧
  ((vm 940 (n % 128) = 0 ∧ (∀ t, Tn (n + 1) t = Tn n t) ∧ ((vc (328 + 4 * (n % 128)) 5 = 2 ∧ vm 941 (n % 128) = 2 ∧ vm 942 (n % 128) = -1 ∧ vm 943 (n % 128) = -1 ∧ ∀ j, Wn (n + 1) j = Wn n j) ∨ (vc (328 + 4 * (n % 128)) 5 = 0 ∧ pktR vc vm nf np fs sa Tn Wn n wk))) ∨
  ((vm 940 (n % 128) = 1 ∨ vm 940 (n % 128) = 2) ∧ vm 942 (n % 128) = -1 ∧ vm 943 (n % 128) = -1 ∧ (∀ j, Wn (n + 1) j = Wn n j) ∧ entR vc vm nt ta Tn n wk))
/-- operation n has left -/
def goneR (vc vm : Nat → Nat → Int32) (L n : Nat) : Prop :=
  (vF 3 (vm 940 (n % 128)) ∧ vc (328 + 4 * (n % 128)) 3 = vm 940 (n % 128) ∧ vc (328 + 4 * (n % 128)) 5 = vm 941 (n % 128) ∧ vc (328 + 4 * (n % 128)) 7 = vm 945 (n % 128) + nI L) ∧
  ((vm 940 (n % 128) = 0 ∧ vm 941 (n % 128) = 0 ∧ vc (328 + 4 * (n % 128)) 6 = vm 942 (n % 128) ∧ ∃ m, m ≤ 60 ∧ vc (328 + 4 * (n % 128)) 2 = nI m ∧ vm 943 (n % 128) = nI m ∧ (∀ j, j < 8 * m → cb vc (331 + 4 * (n % 128)) j = mb vm 944 (60 * (n % 128)) j) ∧ ∀ i, i < m → by8 (vm 944 (60 * (n % 128) + i))) ∨
  (¬ (vm 940 (n % 128) = 0 ∧ vm 941 (n % 128) = 0) ∧ vm 942 (n % 128) = -1 ∧ vm 943 (n % 128) = -1))
/-- operation n is the j-th in line -/
def lineR (vc vm : Nat → Nat → Int32) (nt n j : Nat) : Prop :=
  vc (328 + 4 * (n % 128)) 3 = vm 931 j ∧ vc (328 + 4 * (n % 128)) 5 = 0 ∧
  ((vm 931 j = 0 ∧ ∃ m, m ≤ 60 ∧ vc (328 + 4 * (n % 128)) 2 = nI m ∧ vm 932 j = nI m ∧ (∀ q, q < 8 * m → cb vc (331 + 4 * (n % 128)) q = mb vm 933 (60 * j) q) ∧ ∀ i, i < m → by8 (vm 933 (60 * j + i))) ∨
  ((vm 931 j = 1 ∨ vm 931 j = 2) ∧ (∃ t, t < nt ∧ vc (328 + 4 * (n % 128)) 4 = nI t ∧ vm 934 j = nI t) ∧ (∀ k, k < 4 → vc (329 + 4 * (n % 128)) k = vm 935 (4 * j + k)) ∧ (vm 931 j = 1 → vc (329 + 4 * (n % 128)) 4 = vm 936 j ∧ vc (329 + 4 * (n % 128)) 5 = vm 937 j ∧ vc (329 + 4 * (n % 128)) 6 = vm 938 j ∧ vc (329 + 4 * (n % 128)) 7 = vm 939 j)))
/-- the stages, as they were laid -/
def LRv (v : Nat → Nat → Int32) (nt np L : Nat) (fs ta sa : Nat → Nat) : Prop :=
  (1 ≤ L ∧ L ≤ 12) ∧ (fs 0 = 0 ∧ fs L = np) ∧ (∀ s, s < L → fs s ≤ fs (s + 1)) ∧ (∀ s, s ≤ L → v 322 s = nI (fs s)) ∧ v 320 4 = nI L ∧ (∀ t, t < nt → ta t < L ∧ v 323 t = nI (ta t)) ∧ (∀ p, p < np → ∀ t, v 913 p = nI t → t < nt → fs (ta t) ≤ p ∧ p < fs (ta t + 1)) ∧ (∀ r, r < 4 → sa r < L) ∧ (∀ p, p < np → ∀ r, r < 4 → uS v nt p r → fs (sa r) ≤ p ∧ p < fs (sa r + 1)) ∧ toO v np
def vb (b : Nat → Nat) (i s : Nat) : Nat := if s < i then b s else b (s + 1)
/-- the queue while the stages before i have worked in this cycle -/
def QC (o : Nat) (S : Sx) (vm : Nat → Nat → Int32) (nf na nt np L : Nat) (fs ta sa : Nat → Nat) (i en gn cm ce : Nat) (b : Nat → Nat) (Tn : Nat → Nat → TC) (Wn : Nat → Nat → Int32) : Prop :=
  (gn ≤ en ∧ en ≤ cm ∧ cm ≤ en + 40 ∧ b 0 = en ∧ b L = gn) ∧
  (∀ s, s < L → (V o S 326 s = -1 ∧ b (s + 1) = b s) ∨ (V o S 326 s = nI (b (s + 1)) ∧ b s = b (s + 1) + 1 ∧ ∃ ci, vm 945 (b (s + 1) % 128) = nI ci ∧ ci + s + 1 = ce)) ∧
  (∀ n, n < gn → gn ≤ n + 64 → goneR (V o S) vm L n) ∧
  (∀ j, j < cm - en → lineR (V o S) vm nt (en + j) j) ∧
  (∀ s, s < L → b s = b (s + 1) + 1 → flyR (V o S) vm nf nt np fs ta sa Tn Wn (b (s + 1)) (if s < i then s + 1 else s)) ∧
  (∀ t, t < nt → CTb o S t (Tn (vb b i (ta t)) t) ∧ MTv vm t (Tn en t) ∧ ∀ n, gn ≤ n → n ≤ en → TV (V o S) na t (Tn n t) ∧ TU (Tn n t)) ∧
  (∀ j, j < 64 → V o S 327 j = Wn (vb b i (sa (j / 16))) j ∧ vm 928 j = Wn en j)
/-! how these carry over to other memories -/
def plE (vc vc' : Nat → Nat → Int32) (n : Nat) : Prop := ∀ c k, 328 + 4 * (n % 128) ≤ c → c < 332 + 4 * (n % 128) → vc' c k = vc c k
def hdE (vc vc' : Nat → Nat → Int32) (n : Nat) : Prop := ∀ c k, 840 + 3 * (n % 16) ≤ c → c < 843 + 3 * (n % 16) → vc' c k = vc c k
def tdE (vm vm' : Nat → Nat → Int32) (n : Nat) : Prop := (∀ c, (c = 940 ∨ c = 941 ∨ c = 942 ∨ c = 943 ∨ c = 945) → vm' c (n % 128) = vm c (n % 128)) ∧ ∀ i, i < 60 → vm' 944 (60 * (n % 128) + i) = vm 944 (60 * (n % 128) + i)
theorem cb_cg {vc vc' : Nat → Nat → Int32} {c j : Nat} (e : ∀ k, vc' c k = vc c k) : cb vc' c j = cb vc c j := by unfold cb; rw [e]
theorem cb_fg {vc vc' : Nat → Nat → Int32} {c : Nat} (e : ∀ k, vc' c k = vc c k) : cb vc' c = cb vc c := by funext j; exact cb_cg e
theorem mb_cg {vm vm' : Nat → Nat → Int32} {c B m j : Nat} (e : ∀ i, i < 60 → vm' c (B + i) = vm c (B + i)) (hm : m ≤ 60) (hj : j < 8 * m) : mb vm' c B j = mb vm c B j := by unfold mb; rw [e _ (by omega)]
theorem wdv_cg {v v' : Nat → Nat → Int32} (e : ∀ c k, pc c k → v' c k = v c k) : wdv v' = wdv v := by funext f; unfold wdv; rw [e 3 f (by unfold pc; omega)]
theorem toldR_cg {vc vc' vm vm' : Nat → Nat → Int32} {wd od : Nat → Nat} {tkn m n : Nat} {R : HS} (hm : m ≤ 60) (ec : plE vc vc' n) (em : tdE vm vm' n) (h : toldR vc vm wd od tkn m (n % 128) R) : toldR vc' vm' wd od tkn m (n % 128) R := by
  rcases h with ⟨h1, h2, h3, h4⟩ | ⟨h1, h2, h3, h4, h5, h6⟩
  · left
    rw [em.1 941 (by omega), em.1 942 (by omega), em.1 943 (by omega)]
    exact ⟨h1, h2, h3, h4⟩
  · right
    rw [em.1 941 (by omega), em.1 942 (by omega), em.1 943 (by omega)]
    refine ⟨h1, h2, h3, h4, ?_, ?_⟩
    · intro j hj
      rw [mb_cg em.2 hm hj, h5 j hj, cb_fg (fun k => ec (331 + 4 * (n % 128)) k (by omega) (by omega))]
    · intro i hi
      rw [em.2 i (by omega)]; exact h6 i hi
theorem hsC_cg {vc vc' : Nat → Nat → Int32} {n : Nat} {ar : Nat → Int32} (eh : hdE vc vc' n) : hsC vc' (n % 16) ar = hsC vc (n % 16) ar := by
  unfold hsC
  rw [eh (840 + 3 * (n % 16)) 6 (by omega) (by omega), eh (840 + 3 * (n % 16)) 7 (by omega) (by omega), show vc' (841 + 3 * (n % 16)) = vc (841 + 3 * (n % 16)) from funext fun k => eh _ k (by omega) (by omega)]
theorem pktR_cg {vc vc' vm vm' : Nat → Nat → Int32} {nf np : Nat} {fs sa : Nat → Nat} {Tn : Nat → Nat → TC} {Wn : Nat → Nat → Int32} {n wk : Nat} (ep : ∀ c k, pc c k → vc' c k = vc c k) (ec : plE vc vc' n) (eh : hdE vc vc' n) (em : tdE vm vm' n) (h : pktR vc vm nf np fs sa Tn Wn n wk) : pktR vc' vm' nf np fs sa Tn Wn n wk := by
  obtain ⟨nx, m, tkn, od, h1, h2, h3, h4, h5, h6, h7, h8, h9, h10, h11⟩ := h
  refine ⟨nx, m, tkn, od, h1, ?_, h3, ?_, h5, ?_, ?_, ?_, ?_, ?_, ?_⟩
  · rw [eh _ _ (by omega) (by omega)]; exact h2
  · rw [ec _ _ (by omega) (by omega)]; exact h4
  · rw [eh _ _ (by omega) (by omega)]; exact h6
  · intro i hi
    rw [eh _ _ (by omega) (by omega)]; exact h7 i hi
  · rw [wdv_cg ep]; exact h8
  · rw [eh _ _ (by omega) (by omega)]; exact h9
  · intro j hj
    rw [runS_cg ep, hsC_cg eh]; exact h10 j hj
  · rw [runS_cg ep, hsC_cg eh, wdv_cg ep]
    exact toldR_cg h3 ec em h11
theorem chg_cg {vc vc' : Nat → Nat → Int32} {t : Nat} {kd : Int32} {e : Nat → Int32} {T : TC} (ht : t < 8) (ep : ∀ c k, pc c k → vc' c k = vc c k) : chg vc' t kd e T = chg vc t kd e T := by
  unfold chg
  rw [ep (128 + 22 * t) 3 (by unfold pc; omega), ep (128 + 22 * t) 4 (by unfold pc; omega), ep (128 + 22 * t) 6 (by unfold pc; omega), ep (128 + 22 * t) 7 (by unfold pc; omega), ep (128 + 22 * t) 8 (by unfold pc; omega)]
theorem entR_cg {vc vc' vm vm' : Nat → Nat → Int32} {nt : Nat} {ta : Nat → Nat} {Tn : Nat → Nat → TC} {n wk : Nat} (hnt : nt ≤ 8) (ep : ∀ c k, pc c k → vc' c k = vc c k) (ec : plE vc vc' n) (em : tdE vm vm' n) (h : entR vc vm nt ta Tn n wk) : entR vc' vm' nt ta Tn n wk := by
  obtain ⟨t, h1, h2, h3, h4⟩ := h
  refine ⟨t, h1, ?_, h3, ?_⟩
  · rw [ec _ _ (by omega) (by omega)]; exact h2
  · rw [em.1 941 (by omega), em.1 940 (by omega), ec _ 5 (by omega) (by omega), chg_cg (by omega) ep, show vc' (329 + 4 * (n % 128)) = vc (329 + 4 * (n % 128)) from funext fun k => ec _ k (by omega) (by omega)]
    exact h4
theorem flyR_cg {vc vc' vm vm' : Nat → Nat → Int32} {nf nt np : Nat} {fs ta sa : Nat → Nat} {Tn : Nat → Nat → TC} {Wn : Nat → Nat → Int32} {n wk : Nat} (hnt : nt ≤ 8) (ep : ∀ c k, pc c k → vc' c k = vc c k) (ec : plE vc vc' n) (eh : hdE vc vc' n) (em : tdE vm vm' n) (h : flyR vc vm nf nt np fs ta sa Tn Wn n wk) : flyR vc' vm' nf nt np fs ta sa Tn Wn n wk := by
  unfold flyR at *
  rw [em.1 940 (by omega), em.1 941 (by omega), em.1 942 (by omega), em.1 943 (by omega), ec _ 3 (by omega) (by omega), ec _ 5 (by omega) (by omega)]
  refine ⟨h.1, ?_⟩
  rcases h.2 with ⟨a1, a2, a3⟩ | ⟨a1, a2, a3, a4, a5⟩
  · left
    refine ⟨a1, a2, ?_⟩
    rcases a3 with a3 | ⟨a3, a4⟩
    · exact Or.inl a3
    · exact Or.inr ⟨a3, pktR_cg ep ec eh em a4⟩
  · exact Or.inr ⟨a1, a2, a3, a4, entR_cg hnt ep ec em a5⟩
theorem goneR_cg {vc vc' vm vm' : Nat → Nat → Int32} {L n : Nat} (ec : plE vc vc' n) (em : tdE vm vm' n) (h : goneR vc vm L n) : goneR vc' vm' L n := by
  unfold goneR at *
  rw [em.1 940 (by omega), em.1 941 (by omega), em.1 942 (by omega), em.1 943 (by omega), em.1 945 (by omega), ec _ 2 (by omega) (by omega), ec _ 3 (by omega) (by omega), ec _ 5 (by omega) (by omega), ec _ 6 (by omega) (by omega), ec _ 7 (by omega) (by omega)]
  refine ⟨h.1, ?_⟩
  rcases h.2 with ⟨a1, a2, a3, m, a4, a5, a6, a7, a8⟩ | a
  · left
    refine ⟨a1, a2, a3, m, a4, a5, a6, ?_, ?_⟩
    · intro j hj
      rw [mb_cg em.2 a4 hj, cb_cg (fun k => ec (331 + 4 * (n % 128)) k (by omega) (by omega))]; exact a7 j hj
    · intro i hi
      rw [em.2 i (by omega)]; exact a8 i hi
  · exact Or.inr a
theorem lineR_cg {vc vc' vm vm' : Nat → Nat → Int32} {nt n j : Nat} (ec : plE vc vc' n) (em : ∀ c k, 931 ≤ c → c ≤ 939 → vm' c k = vm c k) (h : lineR vc vm nt n j) : lineR vc' vm' nt n j := by
  unfold lineR at *
  rw [em 931 _ (by omega) (by omega), em 932 _ (by omega) (by omega), em 934 _ (by omega) (by omega), em 936 _ (by omega) (by omega), em 937 _ (by omega) (by omega), em 938 _ (by omega) (by omega), em 939 _ (by omega) (by omega), ec _ 2 (by omega) (by omega), ec _ 3 (by omega) (by omega), ec (328 + 4 * (n % 128)) 4 (by omega) (by omega), ec (328 + 4 * (n % 128)) 5 (by omega) (by omega), ec (329 + 4 * (n % 128)) 4 (by omega) (by omega), ec (329 + 4 * (n % 128)) 5 (by omega) (by omega), ec (329 + 4 * (n % 128)) 6 (by omega) (by omega), ec (329 + 4 * (n % 128)) 7 (by omega) (by omega)]
  refine ⟨h.1, h.2.1, ?_⟩
  rcases h.2.2 with ⟨a1, m, a2, a3, a4, a5, a6⟩ | ⟨a1, a2, a3, a4⟩
  · left
    refine ⟨a1, m, a2, a3, a4, ?_, ?_⟩
    · intro q hq
      rw [cb_cg (fun k => ec (331 + 4 * (n % 128)) k (by omega) (by omega)), a5 q hq]
      unfold mb
      rw [em 933 _ (by omega) (by omega)]
    · intro i hi
      rw [em 933 _ (by omega) (by omega)]; exact a6 i hi
  · right
    refine ⟨a1, a2, ?_, a4⟩
    intro k hk
    rw [ec _ _ (by omega) (by omega), em 935 _ (by omega) (by omega)]; exact a3 k hk
