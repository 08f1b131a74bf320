/-! THE LAW'S SCRIPT -/
def scrOK (Γ : vG) (b Ln : Nat) (xs : Nat → Int32) : Prop := va_X b Ln xs (gs Γ) (gs Γ).heap ∧ b < gB Γ
def scI (Ln : Nat) (xs : Nat → Int32) (j : Int32) : Option Int32 := if vin j Ln = true then some (xs j.toNatClampNeg) else none
section VSCR
variable {Γ : vG} {θ : tM} {Q : State → Prop} {S : Sx} {ce sl pc : Nat} {L : List (Nat × Value)} {st : List Value} {b Ln : Nat} {xs : Nat → Int32}
theorem v_sld {j v : Int32} (hX : scrOK Γ b Ln xs) (he : scI Ln xs j = some v) (hd : decode (tC θ) pc = .ok (.iaload, 1)) (kk : vV Γ θ Q S ce sl (pc + 1) L (.int v :: st)) : vV Γ θ Q S ce sl pc L (.int j :: .ref b :: st) := by
  intro g H locs ls h hl
  obtain ⟨hj, rfl⟩ := ite_some he
  have hj := vin_in hj
  obtain ⟨⟨scr, h1, h2, h3, h4, h5⟩, hb⟩ := hX
  have hlt : j.toNatClampNeg < Ln := Nat.not_le.mp fun q => hj (Or.inr q)
  exact W.iald (v := .int (xs j.toNatClampNeg)) g.ex g.by (by rw [h.2.1 b hb]; exact h1) h2 h3 (by rw [h4]; exact hj) (h5 _ hlt) rfl rfl hd (kk g H locs ls h hl)
theorem v_sln (hX : scrOK Γ b Ln xs) (hd : decode (tC θ) pc = .ok (.arraylength, 1)) (kk : vV Γ θ Q S ce sl (pc + 1) L (.int (nI Ln) :: st)) : vV Γ θ Q S ce sl pc L (.ref b :: st) := by
  intro g H locs ls h hl
  obtain ⟨⟨scr, h1, h2, h3, h4, h5⟩, hb⟩ := hX
  exact W.alen (n := Int32.ofNat Ln) g.ex g.by (by rw [h.2.1 b hb]; exact h1) h2 (by rw [h4] <;> rfl) rfl rfl hd (kk g H locs ls h hl)
end VSCR
